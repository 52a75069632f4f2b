import java.util.List;

/** ACTIONS AND UNDO, and the promise 16. */
public final class UndoTest {
    private static final Checks checks = new Checks("undo");

    private interface Action {
        void on(RiverMeeting x);
    }

    /** Each kind of action, some of which are refused or make nothing different. */
    private static final List<Action> ACTIONS = List.of(
            x -> x.step(2), x -> x.dam(3, 3), x -> x.step(2), x -> x.dam(3, 3), x -> x.set(0, 7),
            x -> x.set(0, 7), x -> x.step(0), x -> x.set(1, 9), x -> x.step(0), x -> x.game(5),
            x -> x.dam(0, 1), x -> x.step(0), x -> x.step(2), x -> x.step(1), x -> x.flood(),
            x -> x.game(Long.MIN_VALUE), x -> x.step(1), x -> x.step(2), x -> x.step(1),
            x -> x.step(2), x -> x.step(1), x -> x.set(1, 1), x -> x.game(1));

    public static void main(String[] args) {
        nothingIsRememberedAtFirst();
        theListHoldsEachKind();
        atMost14StatesAreRemembered();
        theOldestOneIsForgotten();
        actionsThatMakeNothingDifferent();
        takesBackLastTurnsAndDamsThatWent();
        undoIsNoAction();
        otherCallsAreNoActions();
        callsThatThrowAreNoActions();
        loadAndRestoreForget();
        theStateIsNeitherTextNorSlots();
        checks.end();
    }

    private static RiverMeeting after(int actions) {
        RiverMeeting x = new RiverMeeting();
        for (Action action : ACTIONS.subList(0, actions)) {
            action.on(x);
        }
        return x;
    }

    private static RiverMeeting undone(RiverMeeting x, int times) {
        for (int i = 0; i < times; i++) {
            x.undo();
        }
        return x;
    }

    /** IllegalStateException if none is remembered. */
    private static void nothingIsRememberedAtFirst() {
        RiverMeeting x = new RiverMeeting();
        checks.throwsState("undo() at first", x::undo);
        x.step(0);
        checks.due("undo() of one action", x.undo(), 0);
        checks.throwsState("undo() of no more", x::undo);
        checks.throwsState("undo() once more", x::undo);
        checks.due("turns", x.about(3), 0);
        x.step(0);
        checks.due("undo() of the next action", x.undo(), 0);
    }

    private static void theListHoldsEachKind() {
        RiverMeeting x = after(ACTIONS.size());
        checks.due("games", x.about(0), 4);
        checks.due("refused", x.about(7), 2);
        checks.due("floods", x.about(8), 1);
        checks.due("met", after(21).about(1), 2);
        checks.due("stuck", after(14).why(0), 2);
    }

    /** Before each action, the state is remembered; at most 14 states are remembered. */
    private static void atMost14StatesAreRemembered() {
        for (int actions = 0; actions <= ACTIONS.size(); actions++) {
            RiverMeeting x = after(actions);
            int remembered = Math.min(actions, 14);
            for (int left = remembered - 1; left >= 0; left--) {
                checks.due("undo() behind " + actions + " actions", x.undo(), left);
            }
            checks.throwsState("undo() of more behind " + actions + " actions", x::undo);
            for (int times = 1; times <= remembered; times++) {
                int made = actions;
                int undos = times;
                checks.sameState(times + " times undo() behind " + actions + " actions",
                        () -> undone(after(made), undos), () -> after(made - undos));
            }
        }
    }

    /** When one more is remembered, the oldest one is forgotten. */
    private static void theOldestOneIsForgotten() {
        RiverMeeting x = new RiverMeeting();
        for (int v = 1; v <= 14; v++) {
            x.set(0, v);
        }
        checks.due("undo() of the latest of 14", x.undo(), 13);
        checks.due("setting(0)", x.setting(0), 13);
        undone(x, 13);
        checks.due("setting(0) at first", x.setting(0), 20);
        for (int v = 1; v <= 15; v++) {
            x.set(0, v);
        }
        checks.due("undo() of the latest of 15", x.undo(), 13);
        undone(x, 13);
        checks.due("setting(0) behind the first of 15", x.setting(0), 1);
        checks.throwsState("undo() of the first of 15", x::undo);
        for (int v = 1; v <= 40; v++) {
            x.set(0, v);
        }
        undone(x, 10);
        for (int v = 1; v <= 4; v++) {
            x.set(0, v);
        }
        checks.due("undo() of 8 that are remembered", x.undo(), 7);
        checks.due("setting(0) then", x.setting(0), 3);
        undone(x, 3);
        checks.due("setting(0) behind 30 actions", x.setting(0), 30);
        undone(x, 4);
        checks.due("setting(0) behind 26 actions", x.setting(0), 26);
        checks.throwsState("undo() of what is forgotten", x::undo);
    }

    /** An action, also if nothing becomes different. */
    private static void actionsThatMakeNothingDifferent() {
        RiverMeeting x = new RiverMeeting();
        x.set(0, 20);
        checks.due("undo() of set() to the same", x.undo(), 0);
        x.set(0, 20);
        x.set(1, 3);
        x.step(0);
        checks.due("undo() of a step", x.undo(), 2);
        checks.due("undo() of set() to the same", x.undo(), 1);
        checks.due("undo() of set() to the same", x.undo(), 0);
        x.dam(1, 0);
        x.dam(6, 0);
        checks.due("undo() of a dam that is refused", x.undo(), 1);
        checks.due("refused", x.about(7), 1);
        checks.due("undo() of a dam that is refused", x.undo(), 0);
        checks.due("refused", x.about(7), 0);
        Games.play(x, "we");
        x.step(1);
        checks.due("undo() of a step that is refused", x.undo(), 2);
        checks.due("refused", x.about(7), 0);
    }

    private static void takenBack(String before, String move) {
        checks.sameState("undo() of " + move + " behind " + before,
                () -> undone(Games.played(before + move), 1), () -> Games.played(before));
    }

    private static void takesBackLastTurnsAndDamsThatWent() {
        takenBack("ewew", "e");
        takenBack("ewewd77s", "e");
        takenBack(Games.BEFORE_LAST_FLOOD, "f");
        takenBack(Games.BEFORE_LAST_STEP, "w");
        takenBack(Games.BEFORE_LAST_MEETING, "w");
        takenBack(Games.MET, "n00");
        takenBack(Games.DRAWN, "v001");
        takenBack("v003d33d44", "s");
        takenBack("v001", "d33");
        takenBack("d12sd21sd01sss", "f");
        takenBack("d33d44d34d43d35", "d45");
        takenBack("n07", "n08");
    }

    /** Undo is none: it is not taken back by another one. */
    private static void undoIsNoAction() {
        RiverMeeting x = Games.played("sewv105");
        checks.due("undo()", x.undo(), 3);
        checks.due("undo() again", x.undo(), 2);
        checks.due("turns", x.about(3), 2);
        x.step(0);
        checks.due("undo() of the step", x.undo(), 2);
        checks.due("turns", x.about(3), 2);
        checks.due("undo()", x.undo(), 1);
        checks.due("turns", x.about(3), 1);
    }

    /** The methods in the section "actions" change the state, and no others are actions. */
    private static void otherCallsAreNoActions() {
        RiverMeeting x = new RiverMeeting();
        x.append('W');
        x.errorPosition();
        x.clearText();
        x.about(0);
        x.playerOf(0, 0);
        x.cellOf(0, 0, 0);
        x.course(0, 0);
        x.setting(0);
        x.why(0);
        x.whyDam(3, 3);
        x.cheapest(0, 0);
        x.cheapest(1, 1);
        x.meetsIn(0);
        x.leastWished();
        x.best();
        x.runScript(2, 20001000L);
        x.simulate(3, 50);
        x.save(0);
        checks.throwsState("undo() of what is no action", x::undo);
        checks.sameState("what is no action", () -> {
            RiverMeeting y = Games.played("sd33");
            y.runScript(4, 2000200010002000L);
            y.simulate(1, 200);
            y.best();
            y.save(1);
            return y;
        }, () -> Games.played("sd33"));
    }

    /** Each call that does not throw an exception is an action. */
    private static void callsThatThrowAreNoActions() {
        RiverMeeting x = Games.played("sd33");
        checks.throwsArgument("step(-1)", () -> x.step(-1));
        checks.throwsArgument("step(3)", () -> x.step(3));
        checks.throwsIndex("dam(8, 0)", () -> x.dam(8, 0));
        checks.throwsState("flood()", x::flood);
        checks.throwsArgument("set(0, 41)", () -> x.set(0, 41));
        checks.throwsArgument("set(2, 1)", () -> x.set(2, 1));
        checks.due("undo() of the dam", x.undo(), 1);
        checks.due("undo() of the step", x.undo(), 0);
        RiverMeeting met = Games.played(Games.MET);
        checks.throwsState("step(0)", () -> met.step(0));
        checks.throwsState("dam(3, 3)", () -> met.dam(3, 3));
        checks.throwsState("flood()", met::flood);
        checks.due("undo() of the meeting", met.undo(), 4);
        checks.due("under way", met.about(1), 1);
    }

    /** load and restore are not actions; behind them no state is remembered. */
    private static void loadAndRestoreForget() {
        RiverMeeting x = Games.played("sss");
        x.save(0);
        x.step(0);
        x.restore(0);
        checks.throwsState("undo() behind restore()", x::undo);
        x.step(0);
        x.step(0);
        checks.due("undo() of what came then", x.undo(), 1);
        checks.due("undo() of what came then", x.undo(), 0);
        checks.due("turns", x.about(3), 3);
        x.step(0);
        Games.written(x, "Wsd33");
        x.load();
        checks.throwsState("undo() behind load()", x::undo);
        x.step(0);
        checks.due("undo() of what came then", x.undo(), 0);
        checks.due("turns", x.about(3), 2);
        RiverMeeting full = new RiverMeeting();
        full.save(1);
        for (int v = 1; v <= 20; v++) {
            full.set(0, v);
        }
        full.restore(1);
        checks.throwsState("undo() behind restore()", full::undo);
        full.set(0, 5);
        checks.due("undo() of the only action", full.undo(), 0);
        checks.due("setting(0)", full.setting(0), 20);
    }

    /** The state consists of everything but the text and the save slots. */
    private static void theStateIsNeitherTextNorSlots() {
        RiverMeeting x = new RiverMeeting();
        x.step(0);
        x.save(0);
        x.append('W');
        x.append('s');
        x.step(0);
        x.save(1);
        x.undo();
        x.undo();
        checks.due("the text behind undo()", x.errorPosition(), -1);
        checks.due("restore(0) behind undo()", x.restore(0), 1);
        checks.due("restore(1) behind undo()", x.restore(1), 2);
        checks.due("the length of the text", x.clearText(), 2);
        x.step(0);
        x.undo();
        checks.due("no text behind undo()", x.clearText(), 0);
    }
}
