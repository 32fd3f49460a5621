/** For each promise of the document ordinary inputs, the edges that it names, and wrong inputs. */
public final class PromiseTests {
    private static final int NONE = FatigueMenus.NONE;

    private PromiseTests() {
    }

    private static void write(FatigueMenus x, String text) {
        for (int k = 0; k < text.length(); k++) {
            x.append(text.charAt(k));
        }
    }

    /** Of each taste a cheap dish of each part: dish 3 * taste + part, for the tastes 0 to 3. */
    private static FatigueMenus withTwelve() {
        FatigueMenus x = new FatigueMenus();
        for (int k = 0; k < 12; k++) {
            x.addDish(k % 3, 1, k / 3, 9);
        }
        return x;
    }

    /** 0 roast, which leaves 1 hash for two days; 2 soup; 3 cake. */
    private static FatigueMenus withRoast() {
        FatigueMenus x = new FatigueMenus();
        x.addDish(1, 12, 0, 9);
        x.addDish(1, 3, 0, 4);
        x.addDish(0, 5, 1, 6);
        x.addDish(2, 4, 2, 7);
        x.leave(0, 1, 2);
        return x;
    }

    private static void promise1NewObject() {
        FatigueMenus x = new FatigueMenus();
        for (int what = 0; what <= 13; what++) {
            Check.equal("new count(" + what + ")", 0, x.count(what));
        }
        Check.equal("new setting(0)", 2, x.setting(0));
        Check.equal("new setting(1)", 3, x.setting(1));
        Check.equal("new setting(2)", 200, x.setting(2));
        Check.equal("new clearBuffer()", 0, x.clearBuffer());
        Check.equal("new firstError()", 0, x.firstError());
        for (int day = 0; day < 28; day++) {
            for (int part = 0; part < 3; part++) {
                Check.equal("new planned(" + day + ", " + part + ")", NONE, x.planned(day, part));
            }
        }
        FatigueMenus y = new FatigueMenus();
        y.addDish(0, 1, 1, 1);
        Check.equal("another object's dishes", 0, x.count(0));
    }

    private static void promise2AddDish() {
        FatigueMenus x = new FatigueMenus();
        Check.equal("addDish least", 0, x.addDish(0, 0, 0, 1));
        Check.equal("addDish greatest", 1, x.addDish(2, 30, 5, 9));
        int[] due = {2, 30, 5, 9, NONE, 0, 0, 0, 0};
        for (int what = 0; what <= 8; what++) {
            Check.equal("dish(1, " + what + ")", due[what], x.dish(1, what));
        }
        Check.noArgument("part -1", () -> x.addDish(-1, 0, 0, 1));
        Check.noArgument("part 3", () -> x.addDish(3, 0, 0, 1));
        Check.noArgument("cost -1", () -> x.addDish(0, -1, 0, 1));
        Check.noArgument("cost 31", () -> x.addDish(0, 31, 0, 1));
        Check.noArgument("taste -1", () -> x.addDish(0, 0, -1, 1));
        Check.noArgument("taste 6", () -> x.addDish(0, 0, 6, 1));
        Check.noArgument("joy 0", () -> x.addDish(0, 0, 0, 0));
        Check.noArgument("joy 10", () -> x.addDish(0, 0, 0, 10));
        Check.equal("states saved by two dishes", 2, x.count(13));
        x.undo();
        Check.equal("dishes after undo", 1, x.count(0));
        for (int k = 1; k < 12; k++) {
            Check.equal("the next number", k, x.addDish(1, 2, 3, 4));
        }
        Check.noState("a 13th dish", () -> x.addDish(0, 0, 0, 1));
        Check.noArgument("a 13th dish of part 3", () -> x.addDish(3, 0, 0, 1));
        Check.equal("dishes", 12, x.count(0));
    }

    private static void promise2LeavesNothingAfterUndo() {
        FatigueMenus x = withRoast();
        x.addDish(2, 1, 1, 1);
        x.leave(4, 3, 5);
        x.undo();
        x.undo();
        Check.equal("the number again", 4, x.addDish(0, 1, 1, 1));
        Check.equal("it leaves nothing", NONE, x.dish(4, 4));
        Check.equal("within no days", 0, x.dish(4, 5));
    }

    private static void promise3Leave() {
        FatigueMenus x = withRoast();
        Check.equal("leave in place of what it left", 1, x.leave(0, 2, 6));
        Check.equal("what it leaves", 2, x.dish(0, 4));
        Check.equal("within days", 6, x.dish(0, 5));
        Check.equal("no leftover any more", 0, x.dish(1, 6));
        Check.equal("days of no matter", 2, x.leave(0, NONE, 99));
        Check.equal("leaves nothing", NONE, x.dish(0, 4));
        Check.equal("days with NONE", 0, x.dish(0, 5));
        Check.equal("before: nothing", NONE, x.leave(0, 1, 1));
        Check.noIndex("dish -1", () -> x.leave(-1, 1, 1));
        Check.noIndex("dish 4", () -> x.leave(4, 1, 1));
        Check.noIndex("other 4", () -> x.leave(0, 4, 1));
        Check.noIndex("other -2", () -> x.leave(0, -2, 1));
        Check.noIndex("dish and other NONE", () -> x.leave(-1, -1, 1));
        Check.noIndex("index before argument", () -> x.leave(0, 4, 0));
        Check.noArgument("days 0", () -> x.leave(0, 1, 0));
        Check.noArgument("days 7", () -> x.leave(0, 1, 7));
        Check.noArgument("both the same", () -> x.leave(1, 1, 1));
        int saved = x.count(13);
        x.undo();
        Check.equal("undo of leave", NONE, x.dish(0, 4));
        Check.equal("a state less", saved - 1, x.count(13));
    }

    private static void promise3LeaveKeepsThePlanSound() {
        FatigueMenus x = withRoast();
        x.serve(0, 0);
        x.serve(2, 1);
        int saved = x.count(13);
        long before = x.digest();
        Check.noState("too few days", () -> x.leave(0, 1, 1));
        Check.noArgument("argument before state", () -> x.leave(0, 1, 0));
        Check.equal("nothing is changed", before, x.digest());
        Check.equal("nothing is saved", saved, x.count(13));
        Check.equal("more days", 1, x.leave(0, 1, 3));
        Check.equal("with nothing left the hash is no leftover", 1, x.leave(0, NONE, 1));
        x.undo();
        x.leave(3, 1, 6);
        Check.noState("still left by another one", () -> x.leave(0, 2, 6));
        x.serve(3, 2);
        Check.noState("a dish in the plan comes to be a leftover", () -> x.leave(3, 2, 6));
    }

    private static void promise4AddGuest() {
        FatigueMenus x = new FatigueMenus();
        for (int k = 0; k < 6; k++) {
            Check.equal("addGuest", k, x.addGuest());
            Check.equal("comes on all days", 127, x.guest(k, 0));
            Check.equal("no vetoes", 0, x.guest(k, 1));
        }
        Check.noState("a 7th guest", () -> x.addGuest());
        Check.equal("guests", 6, x.count(1));
        x.come(5, 3);
        x.veto(5, 9);
        x.undo();
        x.undo();
        x.undo();
        Check.equal("guests after undo", 5, x.count(1));
        x.addGuest();
        Check.equal("the new one comes on all days", 127, x.guest(5, 0));
        Check.equal("the new one has no vetoes", 0, x.guest(5, 1));
    }

    private static void promise5Come() {
        FatigueMenus x = withRoast();
        x.addGuest();
        Check.equal("come", 127, x.come(0, 1));
        Check.equal("come on none", 1, x.come(0, 0));
        Check.equal("come again", 0, x.come(0, 1));
        Check.noIndex("guest -1", () -> x.come(-1, 1));
        Check.noIndex("guest 1", () -> x.come(1, 128));
        Check.noArgument("days -1", () -> x.come(0, -1));
        Check.noArgument("days 128", () -> x.come(0, 128));
        x.veto(0, 1);
        x.serve(8, 0);
        Check.noState("comes on the second day of the week", () -> x.come(0, 2));
        Check.noArgument("argument before state", () -> x.come(0, 130));
        Check.equal("still the first", 1, x.guest(0, 0));
        Check.equal("all but that day", 1, x.come(0, 125));
        x.undo();
        Check.equal("undo of come", 1, x.guest(0, 0));
    }

    private static void promise6Veto() {
        FatigueMenus x = withRoast();
        x.addGuest();
        Check.equal("veto", 0, x.veto(0, 63));
        Check.equal("veto again", 63, x.veto(0, 0));
        Check.noIndex("guest -1", () -> x.veto(-1, 1));
        Check.noIndex("guest 1", () -> x.veto(1, 64));
        Check.noArgument("tastes -1", () -> x.veto(0, -1));
        Check.noArgument("tastes 64", () -> x.veto(0, 64));
        x.serve(27, 3);
        Check.noState("the cake's taste", () -> x.veto(0, 4));
        Check.noState("among others", () -> x.veto(0, 63));
        Check.equal("still none", 0, x.guest(0, 1));
        x.come(0, 63);
        Check.equal("does not come on the last day", 0, x.veto(0, 4));
        x.undo();
        Check.equal("undo of veto", 0, x.guest(0, 1));
    }

    private static void promise7Set() {
        FatigueMenus x = withRoast();
        Check.equal("tiring", 2, x.set(0, 9));
        Check.equal("tiring again", 9, x.set(0, 0));
        Check.equal("memory", 3, x.set(1, 10));
        Check.equal("memory again", 10, x.set(1, 1));
        Check.equal("budget", 200, x.set(2, 999));
        Check.equal("budget again", 999, x.set(2, 0));
        Check.noIndex("setting -1", () -> x.set(-1, 1));
        Check.noIndex("setting 3", () -> x.set(3, -1));
        Check.noArgument("tiring -1", () -> x.set(0, -1));
        Check.noArgument("tiring 10", () -> x.set(0, 10));
        Check.noArgument("memory 0", () -> x.set(1, 0));
        Check.noArgument("memory 11", () -> x.set(1, 11));
        Check.noArgument("budget -1", () -> x.set(2, -1));
        Check.noArgument("budget 1000", () -> x.set(2, 1000));
        x.set(2, 17);
        x.serve(21, 0);
        x.serve(27, 2);
        x.serve(20, 2);
        Check.noState("below the week's cost", () -> x.set(2, 16));
        Check.noArgument("argument before state", () -> x.set(2, -1));
        Check.equal("still", 17, x.setting(2));
        Check.equal("the same", 17, x.set(2, 17));
        x.undo();
        x.undo();
        Check.equal("undone: the soup of day 20", NONE, x.planned(20, 0));
    }

    private static void promise8Serve() {
        FatigueMenus x = withRoast();
        Check.equal("serve", 9, x.serve(0, 0));
        Check.equal("tired", 2, x.serve(1, 1));
        Check.equal("another taste", 6, x.serve(1, 2));
        Check.equal("the last day", 9, x.serve(27, 0));
        Check.noIndex("day -1", () -> x.serve(-1, 0));
        Check.noIndex("day 28", () -> x.serve(28, 0));
        Check.noIndex("dish -1", () -> x.serve(2, -1));
        Check.noIndex("dish 4", () -> x.serve(2, 4));
        Check.noIndex("day 28 and no dish", () -> x.serve(28, 12));
        int saved = x.count(13);
        Check.noState("the part is taken", () -> x.serve(0, 0));
        Check.noState("no source on that day", () -> x.serve(2, 1));
        Check.noState("no source at all", () -> x.serve(9, 1));
        x.addGuest();
        x.veto(0, 4);
        Check.noState("vetoed", () -> x.serve(5, 3));
        x.set(2, 20);
        Check.noState("too dear", () -> x.serve(2, 2));
        Check.equal("within the budget of the next week", 6, x.serve(7, 2));
        Check.equal("saved: not what was refused", Math.min(6, saved + 4), x.count(13));
        x.undo();
        Check.equal("undo of serve", NONE, x.planned(7, 0));
    }

    private static void promise9Drop() {
        FatigueMenus x = withRoast();
        x.serve(0, 0);
        x.serve(2, 1);
        x.serve(2, 3);
        Check.equal("drop", 3, x.drop(2, 2));
        Check.equal("it is out", NONE, x.planned(2, 2));
        Check.noState("there is none", () -> x.drop(2, 2));
        Check.noState("the source of a serving", () -> x.drop(0, 1));
        Check.equal("it stays", 0, x.planned(0, 1));
        Check.noIndex("day -1", () -> x.drop(-1, 0));
        Check.noIndex("day 28", () -> x.drop(28, 0));
        Check.noIndex("part -1", () -> x.drop(1, -1));
        Check.noIndex("part 3", () -> x.drop(0, 3));
        int saved = x.count(13);
        Check.equal("drop a serving", 1, x.drop(2, 1));
        Check.equal("then its source", 0, x.drop(0, 1));
        Check.equal("saved", Math.min(6, saved + 2), x.count(13));
        x.undo();
        Check.equal("undo of drop", 0, x.planned(0, 1));
    }

    private static void promise10Exchange() {
        FatigueMenus x = withRoast();
        x.serve(0, 0);
        x.serve(0, 3);
        x.serve(2, 1);
        x.serve(1, 2);
        Check.equal("exchange", 9 + 7 + 2 + 6, x.exchange(0, 1));
        Check.equal("the roast has moved", 0, x.planned(1, 1));
        Check.equal("the cake too", 3, x.planned(1, 2));
        Check.equal("the soup too", 2, x.planned(0, 0));
        Check.equal("no roast there", NONE, x.planned(0, 1));
        Check.equal("a day with itself", 24, x.exchange(1, 1));
        Check.noState("the serving before its source", () -> x.exchange(1, 2));
        Check.noIndex("day -1", () -> x.exchange(-1, 0));
        Check.noIndex("day 28", () -> x.exchange(28, 0));
        Check.noIndex("other -1", () -> x.exchange(0, -1));
        Check.noIndex("other 28", () -> x.exchange(0, 28));
        x.addGuest();
        x.come(0, 8);
        x.veto(0, 2);
        Check.noState("the soup would be vetoed", () -> x.exchange(0, 3));
        Check.noState("from the other side too", () -> x.exchange(3, 0));
        x.set(2, 24);
        x.serve(13, 3);
        x.serve(12, 3);
        x.serve(8, 0);
        Check.noState("the first week too dear", () -> x.exchange(0, 8));
        Check.equal("within a week", 24 + 9 + 7 + 5, x.exchange(8, 9));
        x.undo();
        Check.equal("undo of exchange", 0, x.planned(8, 1));
    }

    private static void promise11Fill() {
        FatigueMenus x = withRoast();
        Check.equal("fill", 3, x.fill(3));
        Check.equal("first course", 2, x.planned(3, 0));
        Check.equal("main course", 0, x.planned(3, 1));
        Check.equal("sweet", 3, x.planned(3, 2));
        Check.equal("fill again", 0, x.fill(3));
        Check.equal("saved also if nothing changes", 6, x.count(13));
        x.undo();
        Check.equal("still full", 3, x.count(2));
        x.undo();
        Check.equal("undo of fill", 0, x.count(2));
        Check.noIndex("day -1", () -> x.fill(-1));
        Check.noIndex("day 28", () -> x.fill(28));
        x.serve(27, 0);
        Check.equal("fill what is free", 2, x.fill(27));
        FatigueMenus y = withRoast();
        y.set(2, 10);
        Check.equal("as the budget goes down by ascending parts", 2, y.fill(0));
        Check.equal("the roast is too dear", NONE, y.planned(0, 1));
        y.clear();
        y.set(2, 5);
        Check.equal("the soup takes it all", 1, y.fill(0));
        Check.equal("no dishes", 0, new FatigueMenus().fill(0));
    }

    private static void promise12Clear() {
        FatigueMenus x = withRoast();
        Check.equal("clear an empty plan", 0, x.clear());
        x.serve(0, 0);
        x.serve(1, 1);
        x.serve(27, 3);
        Check.equal("clear", 3, x.clear());
        Check.equal("nothing is left", 0, x.count(2));
        Check.equal("the last day too", NONE, x.planned(27, 2));
        Check.equal("dishes stay", 4, x.count(0));
        x.clear();
        x.undo();
        Check.equal("an empty clear was saved", 0, x.count(2));
        x.undo();
        Check.equal("undo of clear", 3, x.count(2));
    }

    private static void promise13Append() {
        FatigueMenus x = new FatigueMenus();
        Check.noArgument("code 32", () -> x.append(32));
        Check.noArgument("code 127", () -> x.append(127));
        Check.noArgument("code -1", () -> x.append(-1));
        Check.equal("code 33", 1, x.append(33));
        Check.equal("code 126", 2, x.append(126));
        for (int k = 3; k <= 60; k++) {
            Check.equal("append", k, x.append('d'));
        }
        Check.noState("a 61st character", () -> x.append('d'));
        Check.noArgument("argument before state", () -> x.append(32));
        Check.equal("nothing saved", 0, x.count(13));
        Check.equal("the length", 60, x.clearBuffer());
    }

    private static void promise14ClearBuffer() {
        FatigueMenus x = new FatigueMenus();
        Check.equal("clear an empty one", 0, x.clearBuffer());
        write(x, "d0=a");
        Check.equal("clearBuffer", 4, x.clearBuffer());
        Check.equal("empty now", 0, x.clearBuffer());
        Check.equal("a new beginning", 1, x.append('x'));
        Check.equal("nothing saved", 0, x.count(13));
    }

    private static void error(String text, int due) {
        FatigueMenus x = new FatigueMenus();
        write(x, text);
        Check.equal("firstError of " + text, due, x.firstError());
        Check.equal("its buffer stays", text.length(), x.clearBuffer());
    }

    private static void promise15FirstError() {
        for (int day = 0; day < 28; day++) {
            error("d" + day + "=a", ("d" + day).length() + 2);
        }
        for (char c = 'a'; c <= 'l'; c++) {
            error("d1=" + c + ";d2=" + c, 9);
        }
        error("d1=m", 3);
        error("d1=A", 3);
        error("d1==", 3);
        error("d1=`", 3);
        error("d28=a", 2);
        error("d29=a", 2);
        error("d30=a", 2);
        error("d3:", 2);
        error("d00=a", 2);
        error("d01=a", 2);
        error("d=a", 1);
        error("d/", 1);
        error("d:", 1);
        error("d100", 3);
        error("d2:", 2);
        error("d1/", 2);
        error("e0=a", 0);
        error(";", 0);
        error("d0=a;", 5);
        error("d0=a;;", 5);
        error("d0=aa", 4);
        error("d0=ad", 4);
        error("d0=a;e", 5);
        error("d0=a;d", 6);
        error("d", 1);
        error("d2", 2);
        error("d27", 3);
        error("d27=", 4);
        error("d27=dd", 5);
        error("xd27=dd", 0);
        error("d10=a;d11=b;d12=c;d13=d;d14=e;d15=f;d16=g;d17=h;d18=i;d19=j;", 60);
    }

    private static void incomplete(String text) {
        FatigueMenus x = withRoast();
        write(x, text);
        int saved = x.count(13);
        Check.noArgument("read of '" + text + "'", () -> x.read());
        Check.equal("the buffer stays", text.length(), x.clearBuffer());
        Check.equal("nothing is saved", saved, x.count(13));
        Check.equal("nothing is put", 0, x.count(2));
    }

    private static void promise16Read() {
        for (String text : new String[] {"", "d", "d0", "d0=", "d0=a;", "d0=a;d", "d0=a;d1", "d0=a;d1=", "d28=a", "d0=m", "=", "=a", "d=a", "x=a"}) {
            incomplete(text);
        }
        FatigueMenus x = withRoast();
        write(x, "d0=a;d2=b;d27=d;d19=c;d3=d");
        int saved = x.count(13);
        Check.equal("read", 5, x.read());
        Check.equal("one state is saved", saved + 1, x.count(13));
        Check.equal("the buffer is cleared", 0, x.clearBuffer());
        Check.equal("0", 0, x.planned(0, 1));
        Check.equal("2", 1, x.planned(2, 1));
        Check.equal("27", 3, x.planned(27, 2));
        Check.equal("19", 2, x.planned(19, 0));
        Check.equal("3", 3, x.planned(3, 2));
        x.undo();
        Check.equal("undo of read", 0, x.count(2));
    }

    private static void promise16ReadStops() {
        FatigueMenus x = withRoast();
        write(x, "d0=a;d0=b;d1=c");
        Check.equal("up to the taken part", 1, x.read());
        Check.equal("not what stands behind", NONE, x.planned(1, 0));
        write(x, "d5=c;d6=l;d7=c");
        Check.equal("up to a dish that is not there", 1, x.read());
        Check.equal("cleared all the same", 0, x.clearBuffer());
        write(x, "d9=b");
        int saved = x.count(13);
        Check.equal("none", 0, x.read());
        Check.equal("saved all the same", Math.min(6, saved + 1), x.count(13));
        Check.equal("cleared", 0, x.clearBuffer());
        x.undo();
        Check.equal("undo changes nothing", 2, x.count(2));
        write(x, "d1=b;d1=c");
        Check.equal("an earlier entry is there for a later one", 2, x.read());
    }

    private static void promise17Take() {
        FatigueMenus x = withRoast();
        int saved = x.count(13);
        Check.equal("take an empty plan", 0, x.take(0));
        x.serve(0, 0);
        Check.equal("take", 1, x.take(1));
        Check.equal("taken", 2, x.count(12));
        x.serve(27, 3);
        Check.equal("in place of the one before", 2, x.take(0));
        Check.equal("still two", 2, x.count(12));
        Check.equal("takes are not saved", saved + 2 > 6 ? 6 : saved + 2, x.count(13));
        Check.noIndex("snapshot -1", () -> x.take(-1));
        Check.noIndex("snapshot 2", () -> x.take(2));
        x.undo();
        x.undo();
        Check.equal("undo leaves the snapshots", 2, x.restore(0));
        Check.equal("the other one", 1, x.restore(1));
        Check.equal("day 27 is empty in it", NONE, x.planned(27, 2));
    }

    private static void promise18Restore() {
        FatigueMenus x = withRoast();
        Check.noIndex("snapshot -1", () -> x.restore(-1));
        Check.noIndex("snapshot 2", () -> x.restore(2));
        Check.noState("not taken", () -> x.restore(0));
        x.serve(0, 0);
        x.serve(2, 1);
        x.take(1);
        Check.noState("the other one is not taken", () -> x.restore(0));
        x.clear();
        x.serve(9, 3);
        Check.equal("restore", 2, x.restore(1));
        Check.equal("the plan as it was", 1, x.planned(2, 1));
        Check.equal("what came later is out", NONE, x.planned(9, 2));
        x.undo();
        Check.equal("undo of restore", 3, x.planned(9, 2));
        Check.equal("the snapshot stays", 2, x.restore(1));
        x.clear();
        x.leave(0, 1, 1);
        Check.noState("not sound", () -> x.restore(1));
        x.leave(0, 1, 2);
        x.set(2, 14);
        Check.noState("above the budget", () -> x.restore(1));
        x.set(2, 15);
        x.addGuest();
        x.veto(0, 1);
        Check.noState("vetoed", () -> x.restore(1));
        x.come(0, 122);
        Check.equal("the guest does not come then", 2, x.restore(1));
    }

    private static void promise18RestoreOfStrangeDishes() {
        FatigueMenus x = new FatigueMenus();
        x.addDish(0, 1, 1, 1);
        x.serve(0, 0);
        x.take(0);
        x.undo();
        x.undo();
        Check.noState("a dish that is not there", () -> x.restore(0));
        x.addDish(1, 1, 1, 1);
        Check.noState("a dish of another part", () -> x.restore(0));
        Check.equal("nothing is put", 0, x.count(2));
        x.undo();
        x.addDish(0, 9, 2, 8);
        Check.equal("another dish of the same part", 1, x.restore(0));
        Check.equal("its cost", 9, x.count(4));
    }

    private static void promise19Undo() {
        FatigueMenus x = new FatigueMenus();
        Check.noState("nothing saved", () -> x.undo());
        for (int k = 0; k < 9; k++) {
            x.addDish(0, k, 0, 1);
        }
        Check.equal("at most six", 6, x.count(13));
        for (int k = 5; k >= 0; k--) {
            Check.equal("undo", k, x.undo());
            Check.equal("dishes", 3 + k, x.count(0));
        }
        Check.noState("the oldest were dropped", () -> x.undo());
        write(x, "d0=a;");
        x.take(0);
        x.addGuest();
        x.veto(0, 3);
        x.come(0, 5);
        x.set(0, 7);
        Check.equal("undo of set", 3, x.undo());
        Check.equal("the setting", 2, x.setting(0));
        Check.equal("undo of come", 2, x.undo());
        Check.equal("the days", 127, x.guest(0, 0));
        Check.equal("undo of veto", 1, x.undo());
        Check.equal("the vetoes", 0, x.guest(0, 1));
        Check.equal("undo of addGuest", 0, x.undo());
        Check.equal("guests", 0, x.count(1));
        Check.equal("the buffer stays", 5, x.clearBuffer());
        Check.equal("the snapshot stays", 1, x.count(12));
    }

    private static void promise20Planned() {
        FatigueMenus x = withTwelve();
        x.serve(0, 0);
        x.serve(27, 11);
        x.serve(13, 4);
        Check.equal("the first cell", 0, x.planned(0, 0));
        Check.equal("the last cell", 11, x.planned(27, 2));
        Check.equal("one between", 4, x.planned(13, 1));
        Check.equal("an empty one", NONE, x.planned(13, 2));
        Check.noIndex("day -1", () -> x.planned(-1, 0));
        Check.noIndex("day 28", () -> x.planned(28, 0));
        Check.noIndex("part -1", () -> x.planned(1, -1));
        Check.noIndex("part 3", () -> x.planned(0, 3));
    }

    private static void promise21Dish() {
        FatigueMenus x = withRoast();
        x.serve(0, 0);
        x.serve(1, 1);
        x.serve(3, 0);
        x.serve(6, 0);
        int[] roast = {1, 12, 0, 9, 1, 2, 0, 3, 2};
        int[] hash = {1, 3, 0, 4, NONE, 0, 1, 1, 0};
        for (int what = 0; what <= 8; what++) {
            Check.equal("roast " + what, roast[what], x.dish(0, what));
            Check.equal("hash " + what, hash[what], x.dish(1, what));
        }
        Check.noIndex("dish -1", () -> x.dish(-1, 0));
        Check.noIndex("dish 4", () -> x.dish(4, 9));
        Check.noArgument("what -1", () -> x.dish(0, -1));
        Check.noArgument("what 9", () -> x.dish(0, 9));
    }

    private static void promise22Guest() {
        FatigueMenus x = withRoast();
        x.addGuest();
        x.addGuest();
        x.come(1, 66);
        x.veto(1, 40);
        x.serve(1, 0);
        x.serve(1, 2);
        x.serve(13, 3);
        x.serve(14, 3);
        Check.equal("days", 66, x.guest(1, 0));
        Check.equal("vetoes", 40, x.guest(1, 1));
        Check.equal("dishes on these days", 3, x.guest(1, 2));
        Check.equal("dishes on all days", 4, x.guest(0, 2));
        Check.noIndex("guest -1", () -> x.guest(-1, 0));
        Check.noIndex("guest 2", () -> x.guest(2, 3));
        Check.noArgument("what -1", () -> x.guest(0, -1));
        Check.noArgument("what 3", () -> x.guest(0, 3));
    }

    private static void promise23Day() {
        FatigueMenus x = withRoast();
        x.serve(7, 0);
        x.serve(8, 1);
        x.serve(8, 3);
        x.addGuest();
        x.addGuest();
        x.addGuest();
        x.come(0, 2);
        x.come(1, 3);
        x.come(2, 4);
        x.veto(0, 8);
        x.veto(1, 24);
        x.veto(2, 32);
        int[] due = {2, 7, 2 + 7, 24, 2};
        for (int what = 0; what <= 4; what++) {
            Check.equal("day(8, " + what + ")", due[what], x.day(8, what));
            Check.equal("day(27, " + what + ")", 0, x.day(27, what));
        }
        Check.equal("vetoed on the first day of the week", 24, x.day(21, 3));
        Check.noIndex("day -1", () -> x.day(-1, 0));
        Check.noIndex("day 28", () -> x.day(28, 5));
        Check.noArgument("what -1", () -> x.day(0, -1));
        Check.noArgument("what 5", () -> x.day(0, 5));
    }

    private static void promise24Source() {
        FatigueMenus x = new FatigueMenus();
        x.addDish(0, 0, 0, 5);
        x.addDish(1, 0, 1, 5);
        x.addDish(2, 0, 2, 5);
        x.addDish(2, 0, 3, 5);
        x.leave(0, 2, 6);
        x.leave(1, 2, 2);
        x.leave(2, 3, 1);
        x.serve(1, 0);
        x.serve(4, 1);
        x.serve(5, 2);
        Check.equal("the one that ends first", 4, x.source(5, 2));
        x.serve(6, 3);
        Check.equal("a leftover of a leftover", 5, x.source(6, 2));
        x.serve(7, 2);
        Check.equal("found so far: not again", 1, x.source(7, 2));
        Check.noState("all are found", () -> x.serve(8, 2));
        Check.equal("no leftover", NONE, x.source(4, 1));
        Check.equal("no dish", NONE, x.source(20, 2));
        Check.noIndex("day -1", () -> x.source(-1, 0));
        Check.noIndex("day 28", () -> x.source(28, 0));
        Check.noIndex("part -1", () -> x.source(1, -1));
        Check.noIndex("part 3", () -> x.source(0, 3));
    }

    private static void promise24SourceOfEqualEnds() {
        FatigueMenus x = new FatigueMenus();
        x.addDish(0, 0, 0, 5);
        x.addDish(1, 0, 1, 5);
        x.addDish(2, 0, 2, 5);
        x.leave(0, 2, 3);
        x.leave(1, 2, 4);
        x.serve(3, 0);
        x.serve(2, 1);
        x.serve(4, 2);
        Check.equal("of equal ends the earliest day", 2, x.source(4, 2));
        x.drop(4, 2);
        x.leave(1, 2, 3);
        x.drop(2, 1);
        x.serve(3, 1);
        x.serve(4, 2);
        Check.equal("of one day", 3, x.source(4, 2));
        Check.equal("the lowest part is found", 0, x.dish(0, 8));
        Check.equal("the other one is wasted", 1, x.dish(1, 8));
    }

    /** Dish 0 is left by dish 1, and all begins with the first cell of all. */
    private static FatigueMenus withFirstCell() {
        FatigueMenus x = new FatigueMenus();
        x.addDish(1, 1, 0, 5);
        x.addDish(0, 1, 1, 5);
        x.leave(1, 0, 6);
        x.addGuest();
        x.serve(0, 1);
        return x;
    }

    private static void promise6VetoOfTheFirstCell() {
        FatigueMenus x = withFirstCell();
        Check.noState("a veto on the first cell", () -> x.veto(0, 2));
        x.take(0);
        x.clear();
        x.veto(0, 2);
        Check.noState("in a snapshot too", () -> x.restore(0));
    }

    private static void promise24SourceInTheFirstCell() {
        FatigueMenus x = withFirstCell();
        Check.equal("a source", 1, x.count(5));
        Check.equal("it is wasted", 1, x.count(6));
        Check.equal("its dish is", 1, x.dish(1, 8));
        x.serve(6, 0);
        Check.equal("the last day to serve it", 0, x.source(6, 1));
        Check.equal("no dish has no source", NONE, x.source(5, 1));
        Check.equal("none is wasted", 0, x.count(6));
        Check.noState("dish 0 is a leftover like any other", () -> x.drop(0, 0));
        Check.noState("nor moved behind it", () -> x.exchange(0, 7));
    }

    private static void promise25Count() {
        FatigueMenus x = withRoast();
        x.addGuest();
        x.fill(0);
        x.serve(1, 1);
        x.serve(8, 2);
        x.serve(14, 0);
        x.serve(27, 3);
        x.take(1);
        int joy = 6 + 9 + 7 + 2 + 6 + 9 + 7;
        int[] due = {4, 1, 7, joy, 21 + 3 + 5 + 12 + 4, 2, 1, 1, 24, 5, 12, 4, 1, 6};
        for (int what = 0; what <= 13; what++) {
            Check.equal("count(" + what + ")", due[what], x.count(what));
        }
        Check.noArgument("what -1", () -> x.count(-1));
        Check.noArgument("what 14", () -> x.count(14));
    }

    private static void promise26Setting() {
        FatigueMenus x = new FatigueMenus();
        x.set(0, 4);
        x.set(1, 5);
        x.set(2, 6);
        Check.equal("tiring", 4, x.setting(0));
        Check.equal("memory", 5, x.setting(1));
        Check.equal("budget", 6, x.setting(2));
        Check.noIndex("setting -1", () -> x.setting(-1));
        Check.noIndex("setting 3", () -> x.setting(3));
    }

    private static void promise27WhyNot() {
        FatigueMenus x = withRoast();
        x.serve(0, 0);
        x.addGuest();
        x.come(0, 4);
        x.veto(0, 1);
        x.set(2, 14);
        Check.equal("1 first of all", 1, x.whyNot(0, 1, 2));
        Check.equal("2", 2, x.whyNot(2, 0, 0));
        Check.equal("3 before the others", 3, x.whyNot(2, 1, 0));
        Check.equal("4", 4, x.whyNot(1, 1, 1));
        Check.equal("4 before 5", 4, x.whyNot(4, 1, 1));
        x.set(2, 15);
        Check.equal("0 with just the budget", 0, x.whyNot(1, 1, 1));
        Check.equal("5", 5, x.whyNot(4, 1, 1));
        Check.equal("5 on the day of the source", 5, x.whyNot(7, 1, 1));
        Check.noIndex("day -1", () -> x.whyNot(-1, 0, 0));
        Check.noIndex("day 28", () -> x.whyNot(28, 0, 0));
        Check.noIndex("part -1", () -> x.whyNot(0, -1, 0));
        Check.noIndex("part 3", () -> x.whyNot(0, 3, 0));
        Check.noIndex("dish -1", () -> x.whyNot(0, 0, -1));
        Check.noIndex("dish 4", () -> x.whyNot(0, 0, 4));
        x.serve(1, 1);
        x.veto(0, 0);
        x.set(2, 99);
        Check.equal("the source is found already", 5, x.whyNot(2, 1, 1));
        x.drop(1, 1);
        Check.equal("it is free again", 0, x.whyNot(2, 1, 1));
        Check.equal("nothing is changed", NONE, x.planned(2, 1));
        x.serve(2, 1);
        Check.equal("the later serving would lose its source", 5, x.whyNot(1, 1, 1));
    }

    private static void promise28JoyOn() {
        FatigueMenus x = withTwelve();
        x.serve(5, 0);
        x.serve(5, 1);
        x.serve(4, 2);
        x.serve(6, 6);
        Check.equal("two days after", 9 - 6, x.joyOn(6, 0));
        Check.equal("the same day does not count", 9 - 2, x.joyOn(5, 2));
        Check.equal("the last day of memory of one", 9 - 6, x.joyOn(7, 1));
        Check.equal("one day more", 9 - 4, x.joyOn(8, 1));
        Check.equal("all forgotten", 9, x.joyOn(9, 1));
        Check.equal("other tastes", 9, x.joyOn(7, 3));
        Check.equal("the first day", 9, x.joyOn(0, 0));
        Check.equal("where it could not be put", 7, x.joyOn(5, 0));
        x.set(0, 4);
        Check.equal("at least 0", 0, x.joyOn(6, 0));
        x.set(0, 0);
        Check.equal("no tiring", 9, x.joyOn(6, 0));
        x.set(0, 1);
        x.set(1, 10);
        Check.equal("a long memory", 9 - 2, x.joyOn(15, 0));
        x.set(1, 1);
        Check.equal("a short memory", 9 - 2, x.joyOn(6, 0));
        Check.noIndex("day -1", () -> x.joyOn(-1, 0));
        Check.noIndex("day 28", () -> x.joyOn(28, 0));
        Check.noIndex("dish -1", () -> x.joyOn(0, -1));
        Check.noIndex("dish 12", () -> x.joyOn(0, 12));
    }

    private static void promise29Best() {
        FatigueMenus x = new FatigueMenus();
        Check.equal("no dish", NONE, x.best(0, 0));
        x.addDish(0, 5, 0, 6);
        x.addDish(0, 4, 1, 5);
        x.addDish(0, 3, 2, 5);
        x.addDish(0, 3, 3, 5);
        Check.equal("the greatest joy", 0, x.best(1, 0));
        x.serve(0, 0);
        Check.equal("then the least cost, then the lowest number", 2, x.best(1, 0));
        Check.equal("the part is taken", NONE, x.best(0, 0));
        Check.equal("no dish of the part", NONE, x.best(0, 1));
        x.addGuest();
        x.veto(0, 4);
        Check.equal("one that could be put", 3, x.best(1, 0));
        x.set(2, 7);
        Check.equal("too dear", NONE, x.best(1, 0));
        Check.equal("another week", 0, x.best(7, 0));
        Check.noIndex("day -1", () -> x.best(-1, 0));
        Check.noIndex("day 28", () -> x.best(28, 0));
        Check.noIndex("part -1", () -> x.best(1, -1));
        Check.noIndex("part 3", () -> x.best(0, 3));
    }

    private static void promise30Gain() {
        FatigueMenus x = withTwelve();
        x.serve(3, 0);
        x.serve(3, 1);
        x.serve(5, 2);
        Check.equal("its joy less what others lose", 9 - 2 - 2 - 2, x.gain(2, 0));
        Check.equal("the last day of memory", 9 - 2 - 2, x.gain(0, 0));
        Check.equal("on the day itself", 9 - 2, x.gain(3, 2));
        Check.equal("another taste", 9, x.gain(2, 3));
        Check.equal("could not be put", 0, x.gain(3, 3));
        Check.equal("not on the day after the memory", 9 - 2 - 2, x.gain(1, 0));
        x.set(1, 1);
        Check.equal("a shorter memory", 9 - 2 - 2, x.gain(2, 0));
        Check.equal("which ends before the next one", 9, x.gain(1, 0));
        x.set(1, 3);
        x.set(0, 9);
        Check.equal("below 0", 9 - 9 - 9, x.gain(2, 0));
        Check.equal("no less than 0 is lost", 0, x.gain(4, 0));
        Check.noIndex("day -1", () -> x.gain(-1, 0));
        Check.noIndex("day 28", () -> x.gain(28, 0));
        Check.noIndex("dish -1", () -> x.gain(0, -1));
        Check.noIndex("dish 12", () -> x.gain(0, 12));
        Check.equal("nothing is changed", 3, x.count(2));
    }

    private static void promise31BestDay() {
        FatigueMenus x = withRoast();
        Check.equal("the first of several", 0, x.bestDay(0));
        Check.equal("on none", NONE, x.bestDay(1));
        x.serve(3, 0);
        Check.equal("the days that it could be put on", 4, x.bestDay(1));
        x.serve(4, 1);
        Check.equal("away from the same taste", 8, x.bestDay(0));
        Check.noIndex("dish -1", () -> x.bestDay(-1));
        Check.noIndex("dish 4", () -> x.bestDay(4));
    }

    private static void promise31BestDayBelowZero() {
        FatigueMenus x = new FatigueMenus();
        x.addDish(0, 0, 0, 1);
        x.addDish(1, 0, 0, 9);
        x.addDish(0, 0, 5, 1);
        x.set(0, 9);
        x.set(1, 1);
        x.serve(1, 1);
        x.serve(3, 1);
        x.serve(7, 1);
        for (int day = 0; day < 28; day++) {
            if (day != 2 && day != 6) {
                x.serve(day, 2);
            }
        }
        Check.equal("what day 2 gains", -9, x.gain(2, 0));
        Check.equal("what day 6 gains", 1 - 9, x.gain(6, 0));
        Check.equal("the greatest gain of those that there are", 6, x.bestDay(0));
        x.serve(6, 2);
        Check.equal("the only one left", 2, x.bestDay(0));
        x.serve(2, 2);
        Check.equal("none left", NONE, x.bestDay(0));
    }

    private static void promise32UsedShare() {
        FatigueMenus x = withRoast();
        Check.equal("without sources", 1.0, x.usedShare());
        x.serve(0, 0);
        Check.equal("all wasted", 0.0, x.usedShare());
        x.serve(1, 1);
        Check.equal("all served", 1.0, x.usedShare());
        x.serve(2, 0);
        x.serve(8, 0);
        Check.equal("a third", 1.0 / 3.0, x.usedShare());
        x.serve(3, 1);
        Check.equal("two thirds", 2.0 / 3.0, x.usedShare());
    }

    private static void promise33Digest() {
        FatigueMenus x = new FatigueMenus();
        Model m = new Model();
        Check.equal("a new one's digest", m.digest(), x.digest());
        x.addDish(1, 12, 0, 9);
        m.addDish(1, 12, 0, 9);
        x.addDish(1, 3, 0, 4);
        m.addDish(1, 3, 0, 4);
        x.leave(0, 1, 2);
        m.leave(0, 1, 2);
        x.addGuest();
        m.addGuest();
        Check.equal("with dishes and a guest", m.digest(), x.digest());
        for (int day = 0; day < 7; day += 2) {
            x.serve(day, 0);
            m.serve(day, 0);
            Check.equal("with a wasted source", m.digest(), x.digest());
            x.serve(day + 1, day == 6 ? 0 : 1);
            m.serve(day + 1, day == 6 ? 0 : 1);
            Check.equal("with a share", m.digest(), x.digest());
        }
        x.append('d');
        m.append('d');
        Check.equal("with a text", m.digest(), x.digest());
        Check.equal("nothing is changed", m.digest(), x.digest());
    }

    public static void main(String[] args) {
        promise1NewObject();
        promise2AddDish();
        promise2LeavesNothingAfterUndo();
        promise3Leave();
        promise3LeaveKeepsThePlanSound();
        promise4AddGuest();
        promise5Come();
        promise6Veto();
        promise6VetoOfTheFirstCell();
        promise7Set();
        promise8Serve();
        promise9Drop();
        promise10Exchange();
        promise11Fill();
        promise12Clear();
        promise13Append();
        promise14ClearBuffer();
        promise15FirstError();
        promise16Read();
        promise16ReadStops();
        promise17Take();
        promise18Restore();
        promise18RestoreOfStrangeDishes();
        promise19Undo();
        promise20Planned();
        promise21Dish();
        promise22Guest();
        promise23Day();
        promise24Source();
        promise24SourceOfEqualEnds();
        promise24SourceInTheFirstCell();
        promise25Count();
        promise26Setting();
        promise27WhyNot();
        promise28JoyOn();
        promise29Best();
        promise30Gain();
        promise31BestDay();
        promise31BestDayBelowZero();
        promise32UsedShare();
        promise33Digest();
        Check.finish("PromiseTests");
    }
}
