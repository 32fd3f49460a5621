import java.util.ArrayList;
import java.util.List;

/** Objects made alike: one gets a call, and all that a caller can ever see of both is compared. */
final class Twins {
    interface Making {
        FatigueMenus make();
    }

    interface Act {
        long on(FatigueMenus x);
    }

    private static final int MOST_SAVED = 6;

    private Twins() {
    }

    static void noIndex(String what, Making making, Act act) {
        refused(what, "IndexOutOfBoundsException", making, act);
    }

    static void noArgument(String what, Making making, Act act) {
        refused(what, "IllegalArgumentException", making, act);
    }

    static void noState(String what, Making making, Act act) {
        refused(what, "IllegalStateException", making, act);
    }

    private static void refused(String what, String exception, Making making, Act act) {
        FatigueMenus x = making.make();
        Check.tell(what, "throws." + exception, Check.answerOf(() -> act.on(x)));
        alike(what + ", refused,", making, () -> afterRefused(making, act));
    }

    /** A call that only asks. */
    static void asks(String what, long due, Making making, Act act) {
        answers(what, due, making, act);
        alike(what + ", asked,", making, () -> after(making, act));
    }

    static void answers(String what, long due, Making making, Act act) {
        FatigueMenus x = making.make();
        Check.tell(what, Long.toString(due), Check.answerOf(() -> act.on(x)));
    }

    /** A call that saves the state from before it, which undo brings back; all else it leaves. */
    static void undoable(String what, long due, Making making, Act act) {
        answers(what, due, making, act);
        int saved = Math.min(MOST_SAVED, making.make().count(13) + 1);
        Check.equal(what + ": states saved then", saved, after(making, act).count(13));
        answers(what + ": its undo", saved - 1, () -> after(making, act), x -> x.undo());
        alike(what + ", undone,", () -> after(making, x -> x.exchange(0, 0), x -> x.undo()), () -> after(making, act, x -> x.undo()));
    }

    /** A call that leaves the dishes, guests, settings, plan and saved states as they are. */
    static void unsaved(String what, long due, Making making, Act act) {
        answers(what, due, making, act);
        sameText(what + ": the saved states", statesBack(making.make()), statesBack(after(making, act)));
    }

    /** None of the calls is refused, or the test itself is wrong. */
    static FatigueMenus after(Making making, Act... acts) {
        FatigueMenus x = making.make();
        for (Act act : acts) {
            act.on(x);
        }
        return x;
    }

    private static FatigueMenus afterRefused(Making making, Act act) {
        FatigueMenus x = making.make();
        Check.answerOf(() -> act.on(x));
        return x;
    }

    /** Each look uses up the objects, so that each has its own. */
    static void alike(String what, Making due, Making got) {
        sameText(what + " all that there is", all(due.make()), all(got.make()));
        sameText(what + " snapshot 0", ofSnapshot(due.make(), 0), ofSnapshot(got.make(), 0));
        sameText(what + " snapshot 1", ofSnapshot(due.make(), 1), ofSnapshot(got.make(), 1));
        sameText(what + " the saved states", statesBack(due.make()), statesBack(got.make()));
    }

    private static List<String> all(FatigueMenus x) {
        List<String> lines = state(x);
        lines.add("snapshots " + x.count(12) + " saved " + x.count(13));
        lines.add("first error " + x.firstError());
        lines.add("digest " + x.digest());
        lines.add("length " + x.clearBuffer());
        return lines;
    }

    /** All that undo brings back. */
    private static List<String> state(FatigueMenus x) {
        List<String> lines = new ArrayList<>();
        lines.add("settings " + x.setting(0) + " " + x.setting(1) + " " + x.setting(2));
        lines.add("counts " + x.count(0) + " " + x.count(1) + " " + x.count(2) + " " + x.count(3) + " " + x.count(4));
        for (int dish = 0; dish < x.count(0); dish++) {
            StringBuilder line = new StringBuilder("dish " + dish + ":");
            for (int what = 0; what <= 8; what++) {
                line.append(' ').append(x.dish(dish, what));
            }
            lines.add(line.toString());
        }
        for (int guest = 0; guest < x.count(1); guest++) {
            lines.add("guest " + guest + ": " + x.guest(guest, 0) + " " + x.guest(guest, 1));
        }
        for (int day = 0; day < 28; day++) {
            lines.add("day " + day + ": " + x.planned(day, 0) + " " + x.planned(day, 1) + " " + x.planned(day, 2));
        }
        return lines;
    }

    /** What a snapshot holds: all that could refuse it is put out of its way, but for the dishes. */
    private static List<String> ofSnapshot(FatigueMenus x, int snapshot) {
        x.clear();
        x.set(2, 999);
        for (int dish = 0; dish < x.count(0); dish++) {
            x.leave(dish, FatigueMenus.NONE, 1);
        }
        for (int guest = 0; guest < x.count(1); guest++) {
            x.come(guest, 0);
        }
        String answer = Check.answerOf(() -> x.restore(snapshot));
        List<String> lines = state(x);
        lines.add("restore answered " + answer);
        return lines;
    }

    private static List<String> statesBack(FatigueMenus x) {
        List<String> lines = new ArrayList<>(state(x));
        boolean goesOn = true;
        for (int k = 0; k < 2 * MOST_SAVED && goesOn; k++) {
            String answer = Check.answerOf(() -> x.undo());
            goesOn = !answer.startsWith("throws.");
            lines.add("undo answered " + answer);
            lines.addAll(state(x));
        }
        return lines;
    }

    /** Tells the first line that differs. */
    private static void sameText(String what, List<String> due, List<String> got) {
        for (int k = 0; k < Math.max(due.size(), got.size()); k++) {
            String dueLine = k < due.size() ? due.get(k) : "nothing";
            String gotLine = k < got.size() ? got.get(k) : "nothing";
            if (!dueLine.equals(gotLine)) {
                Check.tell(what, dueLine, gotLine);
                return;
            }
        }
        Check.tell(what, "the same", "the same");
    }
}
