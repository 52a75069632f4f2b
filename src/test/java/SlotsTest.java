/** Promises 25 and 26. */
public final class SlotsTest {
    private static final Checks checks = new Checks("slots");

    public static void main(String[] args) {
        wrongSlots();
        savesAndRestores();
        forgetsWhatIsRemembered();
        savesAGameThatIsOver();
        checks.end();
    }

    private static void wrongSlots() {
        RiverMeeting x = new RiverMeeting();
        int[] wrong = {-1, 2, Integer.MIN_VALUE, Integer.MAX_VALUE};
        for (int slot : wrong) {
            checks.throwsIndex("save(" + slot + ")", () -> x.save(slot));
            checks.throwsIndex("restore(" + slot + ")", () -> x.restore(slot));
        }
        checks.throwsState("restore(0) of nothing", () -> x.restore(0));
        checks.throwsState("restore(1) of nothing", () -> x.restore(1));
        checks.due("save(1)", x.save(1), 0);
        checks.throwsState("restore(0) of nothing still", () -> x.restore(0));
        checks.due("restore(1)", x.restore(1), 0);
    }

    private static void savesAndRestores() {
        RiverMeeting x = new RiverMeeting();
        x.game(8);
        x.step(0);
        x.dam(0, 7);
        x.dam(5, 5);
        x.dam(5, 5);
        x.set(0, 9);
        String first = Checks.told(x);
        checks.due("save(0)", x.save(0), 3);
        checks.same("save(0)", first, x);
        x.step(0);
        x.set(1, 9);
        x.step(0);
        String second = Checks.told(x);
        checks.due("save(1)", x.save(1), 5);
        x.game(9);
        x.step(1);
        checks.due("restore(0)", x.restore(0), 3);
        checks.same("restore(0)", first, x);
        checks.due("restore(1)", x.restore(1), 5);
        checks.same("restore(1)", second, x);
        x.game(10);
        checks.due("restore(1) again", x.restore(1), 5);
        checks.same("restore(1) again", second, x);
        x.step(1);
        x.step(2);
        checks.due("save(0) once more", x.save(0), x.about(3));
        String third = Checks.told(x);
        x.restore(1);
        checks.same("restore(1) behind save(0)", second, x);
        x.restore(0);
        checks.same("restore(0) behind save(0)", third, x);
        x.append('W');
        x.append('s');
        x.restore(1);
        checks.due("the text is no part of it", x.clearText(), 2);
    }

    private static void forgetsWhatIsRemembered() {
        RiverMeeting x = new RiverMeeting();
        x.step(0);
        x.step(0);
        x.save(0);
        x.step(0);
        checks.due("save() forgets nothing", x.undo(), 2);
        checks.due("undo() behind save()", x.undo(), 1);
        x.step(1);
        x.restore(0);
        checks.throwsState("undo() behind restore()", x::undo);
        x.step(0);
        checks.due("undo() of what came then", x.undo(), 0);
        checks.due("turns", x.about(3), 2);
        x.step(0);
        checks.throwsState("restore(1) of nothing", () -> x.restore(1));
        checks.throwsIndex("restore(2)", () -> x.restore(2));
        checks.due("a restore() that throws forgets nothing", x.undo(), 0);
        x.step(2);
        x.step(2);
        x.game(77);
        x.save(1);
        x.undo();
        checks.due("restore(1) behind undo()", x.restore(1), 0);
        checks.due("cost", x.cellOf(3, 3, 1), Checks.cost(77, 1, 27));
        for (int i = 1; i <= 20; i++) {
            x.set(0, i);
        }
        x.restore(1);
        x.set(0, 1);
        checks.due("undo() in a ring that was full", x.undo(), 0);
        checks.due("setting(0)", x.setting(0), 20);
    }

    private static void savesAGameThatIsOver() {
        RiverMeeting x = Checks.loaded("Wewewe");
        String met = Checks.told(x);
        checks.due("save(0)", x.save(0), 5);
        x.game(1);
        checks.due("restore(0)", x.restore(0), 5);
        checks.same("restore(0)", met, x);
        checks.throwsState("step(0) then", () -> x.step(0));
    }
}
