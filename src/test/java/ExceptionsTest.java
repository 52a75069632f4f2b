import java.util.ArrayList;
import java.util.List;

/** EXCEPTIONS: which one is thrown, and that a call that throws one changes nothing. */
public final class ExceptionsTest {
    private static final Checks checks = new Checks("exceptions");

    private static final Class<? extends RuntimeException> INDEX = IndexOutOfBoundsException.class;
    private static final Class<? extends RuntimeException> ARGUMENT =
            IllegalArgumentException.class;
    private static final Class<? extends RuntimeException> STATE = IllegalStateException.class;

    private interface Call {
        int on(RiverMeeting x);
    }

    /** A call that is refused, with the exception that is due. */
    private static final class Refused {
        final String name;
        final Call call;
        final Class<? extends RuntimeException> due;

        Refused(String name, Call call, Class<? extends RuntimeException> due) {
            this.name = name;
            this.call = call;
            this.due = due;
        }
    }

    public static void main(String[] args) {
        List<Refused> ofGame = game(true);
        List<Refused> ofNothing = new ArrayList<>(nothingKept());
        ofNothing.add(new Refused("load()", RiverMeeting::load, STATE));
        refused("a new object", RiverMeeting::new, ofGame, ofNothing);
        refused("a game under way", ExceptionsTest::underWay, ofGame,
                List.of(new Refused("restore(0)", x -> x.restore(0), STATE)));
        refused("a game that met", () -> kept(Games.MET), game(false));
        refused("a game that is drawn", () -> kept(Games.DRAWN), game(false));
        refused("a loaded game that met", () -> Games.loaded("W" + Games.MET), game(false),
                nothingKept());
        refused("a player without a step", () -> kept(Games.STUCK));
        refused("a full text", () -> full("Ws"), ofFullText());
        refused("a full text that is no game", () -> full("Wsx"), ofFullText(),
                List.of(new Refused("load()", RiverMeeting::load, STATE)));
        refused("a text that ends too soon", () -> Games.written(underWay(), "Wsd3"),
                List.of(new Refused("load()", RiverMeeting::load, STATE)));
        checks.end();
    }

    // ---- objects, made by not too many calls

    private static RiverMeeting underWay() {
        RiverMeeting x = Games.played("v007n05sd33ed44v108");
        x.dam(1, 0);
        x.save(1);
        x.step(0);
        x.undo();
        return x;
    }

    private static RiverMeeting kept(String moves) {
        RiverMeeting x = Games.played(moves);
        x.save(0);
        x.append('W');
        return x;
    }

    private static RiverMeeting full(String begin) {
        return Games.written(underWay(), begin + "s".repeat(120 - begin.length()));
    }

    // ---- calls

    private static List<Refused> everywhere() {
        return List.of(
                new Refused("append(-1)", x -> x.append(-1), ARGUMENT),
                new Refused("append(256)", x -> x.append(256), ARGUMENT),
                new Refused("about(-1)", x -> x.about(-1), ARGUMENT),
                new Refused("about(9)", x -> x.about(9), ARGUMENT),
                new Refused("playerOf(-1, 0)", x -> x.playerOf(-1, 0), INDEX),
                new Refused("playerOf(2, 0)", x -> x.playerOf(2, 0), INDEX),
                new Refused("playerOf(0, -1)", x -> x.playerOf(0, -1), ARGUMENT),
                new Refused("playerOf(1, 6)", x -> x.playerOf(1, 6), ARGUMENT),
                new Refused("playerOf(2, 6)", x -> x.playerOf(2, 6), INDEX),
                new Refused("cellOf(-1, 0, 0)", x -> x.cellOf(-1, 0, 0), INDEX),
                new Refused("cellOf(8, 0, 0)", x -> x.cellOf(8, 0, 0), INDEX),
                new Refused("cellOf(0, -1, 0)", x -> x.cellOf(0, -1, 0), INDEX),
                new Refused("cellOf(0, 8, 0)", x -> x.cellOf(0, 8, 0), INDEX),
                new Refused("cellOf(0, 0, -1)", x -> x.cellOf(0, 0, -1), ARGUMENT),
                new Refused("cellOf(7, 7, 4)", x -> x.cellOf(7, 7, 4), ARGUMENT),
                new Refused("cellOf(8, 8, 4)", x -> x.cellOf(8, 8, 4), INDEX),
                new Refused("course(-1, 0)", x -> x.course(-1, 0), INDEX),
                new Refused("course(2, 0)", x -> x.course(2, 0), INDEX),
                new Refused("course(0, -1)", x -> x.course(0, -1), INDEX),
                new Refused("course(1, 64)", x -> x.course(1, 64), INDEX),
                new Refused("setting(-1)", x -> x.setting(-1), ARGUMENT),
                new Refused("setting(2)", x -> x.setting(2), ARGUMENT),
                new Refused("step(-1)", x -> x.step(-1), ARGUMENT),
                new Refused("step(3)", x -> x.step(3), ARGUMENT),
                new Refused("dam(-1, 0)", x -> x.dam(-1, 0), INDEX),
                new Refused("dam(8, 0)", x -> x.dam(8, 0), INDEX),
                new Refused("dam(0, -1)", x -> x.dam(0, -1), INDEX),
                new Refused("dam(0, 8)", x -> x.dam(0, 8), INDEX));
    }

    private static List<Refused> everywhereToo() {
        return List.of(
                new Refused("set(-1, 1)", x -> x.set(-1, 1), ARGUMENT),
                new Refused("set(2, 1)", x -> x.set(2, 1), ARGUMENT),
                new Refused("set(0, 0)", x -> x.set(0, 0), ARGUMENT),
                new Refused("set(0, 41)", x -> x.set(0, 41), ARGUMENT),
                new Refused("set(1, 0)", x -> x.set(1, 0), ARGUMENT),
                new Refused("set(1, 10)", x -> x.set(1, 10), ARGUMENT),
                new Refused("why(-1)", x -> x.why(-1), ARGUMENT),
                new Refused("why(3)", x -> x.why(3), ARGUMENT),
                new Refused("whyDam(-1, 0)", x -> x.whyDam(-1, 0), INDEX),
                new Refused("whyDam(0, 8)", x -> x.whyDam(0, 8), INDEX),
                new Refused("cheapest(-1, 0)", x -> x.cheapest(-1, 0), INDEX),
                new Refused("cheapest(2, 1)", x -> x.cheapest(2, 1), INDEX),
                new Refused("cheapest(0, -1)", x -> x.cheapest(0, -1), ARGUMENT),
                new Refused("cheapest(1, 2)", x -> x.cheapest(1, 2), ARGUMENT),
                new Refused("cheapest(2, 2)", x -> x.cheapest(2, 2), INDEX),
                new Refused("meetsIn(-1)", x -> x.meetsIn(-1), INDEX),
                new Refused("meetsIn(2)", x -> x.meetsIn(2), INDEX),
                new Refused("runScript(0, 0)", x -> x.runScript(0, 0), ARGUMENT),
                new Refused("runScript(5, 0)", x -> x.runScript(5, 0), ARGUMENT),
                new Refused("runScript(1, -1)", x -> x.runScript(1, -1), ARGUMENT),
                new Refused("runScript(1, 10000)", x -> x.runScript(1, 10000), ARGUMENT),
                new Refused("simulate(0, 0)", x -> x.simulate(0, 0), ARGUMENT),
                new Refused("simulate(0, 201)", x -> x.simulate(0, 201), ARGUMENT),
                new Refused("save(-1)", x -> x.save(-1), INDEX),
                new Refused("save(2)", x -> x.save(2), INDEX),
                new Refused("restore(-1)", x -> x.restore(-1), INDEX),
                new Refused("restore(2)", x -> x.restore(2), INDEX));
    }

    /** What a game refuses that is under way, with a step that is possible, or that is over. */
    private static List<Refused> game(boolean underWay) {
        List<Refused> all = new ArrayList<>();
        all.add(new Refused("flood()", RiverMeeting::flood, STATE));
        if (!underWay) {
            all.add(new Refused("step(0)", x -> x.step(0), STATE));
            all.add(new Refused("step(1)", x -> x.step(1), STATE));
            all.add(new Refused("step(2)", x -> x.step(2), STATE));
            all.add(new Refused("dam(3, 3)", x -> x.dam(3, 3), STATE));
            all.add(new Refused("dam(1, 0)", x -> x.dam(1, 0), STATE));
        }
        return all;
    }

    private static List<Refused> nothingKept() {
        return List.of(
                new Refused("undo()", RiverMeeting::undo, STATE),
                new Refused("restore(0)", x -> x.restore(0), STATE),
                new Refused("restore(1)", x -> x.restore(1), STATE));
    }

    private static List<Refused> ofFullText() {
        return List.of(
                new Refused("append(0)", x -> x.append(0), STATE),
                new Refused("append('s')", x -> x.append('s'), STATE),
                new Refused("append(255)", x -> x.append(255), STATE));
    }

    // ---- what is due

    @SafeVarargs
    private static void refused(String when, Looks.Maker maker, List<Refused>... furtherOnes) {
        List<Refused> all = new ArrayList<>(everywhere());
        all.addAll(everywhereToo());
        for (List<Refused> further : furtherOnes) {
            all.addAll(further);
        }
        String before = Looks.all(maker);
        for (Refused refused : all) {
            RiverMeeting x = maker.make();
            checks.due(refused.name + " of " + when, thrown(refused, x), refused.due.getName());
            checks.due(refused.name + " of " + when + " changes what is seen", Looks.all(() -> {
                RiverMeeting y = maker.make();
                thrown(refused, y);
                return y;
            }), before);
        }
    }

    private static String thrown(Refused refused, RiverMeeting x) {
        try {
            return "answer " + refused.call.on(x);
        } catch (RuntimeException e) {
            return e.getClass().getName();
        }
    }
}
