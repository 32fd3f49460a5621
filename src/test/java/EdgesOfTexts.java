/** Promises 13 to 19, sentence by sentence: the edges, and what a refused call leaves unchanged. */
public final class EdgesOfTexts {
    private static final int NONE = FatigueMenus.NONE;
    private static final int MIN = Integer.MIN_VALUE;
    private static final int MAX = Integer.MAX_VALUE;

    private EdgesOfTexts() {
    }

    private static Twins.Making roastAnd(String text, Twins.Act... acts) {
        return () -> Kitchens.write(Twins.after(Kitchens::roast, acts), text);
    }

    private static String times(String text, int many) {
        StringBuilder all = new StringBuilder();
        for (int k = 0; k < many; k++) {
            all.append(text);
        }
        return all.toString();
    }

    // ---- 13: append

    private static void codesOfAppend() {
        for (int code = 33; code <= 126; code++) {
            int of = code;
            Twins.unsaved("13: code " + code, 1, Kitchens::roast, x -> x.append(of));
            Twins.unsaved("13: code " + code + " behind others", 8, Kitchens::busy, x -> x.append(of));
        }
        for (int code : new int[] {32, 127, 0, -1, 128, 10, 33 + 256, 100 + 65536, MIN, MAX}) {
            Twins.noArgument("13: code " + code, Kitchens::busy, x -> x.append(code));
            Twins.noArgument("13: argument before state, code " + code, roastAnd(times("d", 60)), x -> x.append(code));
        }
    }

    private static void atMostSixtyCharacters() {
        FatigueMenus x = new FatigueMenus();
        for (int length = 1; length <= 60; length++) {
            Check.equal("13: the new length", length, x.append(33 + length));
        }
        Twins.unsaved("13: the 60th", 60, roastAnd(times("d", 59)), y -> y.append('d'));
        Twins.noState("13: a 61st", roastAnd(times("d", 60)), y -> y.append('d'));
        Twins.noState("13: a 61st of another code", roastAnd(times("d0=a;", 12)), y -> y.append(126));
        Twins.answers("13: after a clearing there is room", 1, () -> Twins.after(roastAnd(times("d", 60)), y -> y.clearBuffer()), y -> y.append('d'));
    }

    private static void appendPutsItBehind() {
        Twins.answers("13: the first one stays first", 1, () -> Kitchens.write(new FatigueMenus(), "dd"), x -> x.firstError());
        Twins.answers("13: the second one comes second", 4, () -> Kitchens.write(new FatigueMenus(), "d1=a"), x -> x.firstError());
    }

    // ---- 14: clearBuffer

    private static void clearBufferTellsTheLengthThatItHad() {
        for (int length : new int[] {0, 1, 59, 60}) {
            Twins.Making text = roastAnd(times("d", length));
            Twins.unsaved("14: of " + length, length, text, x -> x.clearBuffer());
            Twins.alike("14: then as without a text,", Kitchens::roast, () -> Twins.after(text, x -> x.clearBuffer()));
        }
        Twins.asks("14: an empty one", 0, Kitchens::full, x -> x.clearBuffer());
        Twins.unsaved("14: snapshots stay", 7, Kitchens::busy, x -> x.clearBuffer());
        Twins.answers("14: which can be restored", 5, () -> Twins.after(Kitchens::busy, x -> x.clearBuffer()), x -> x.restore(1));
        FatigueMenus x = Kitchens.busy();
        x.clearBuffer();
        Check.equal("14: both snapshots", 2, x.count(12));
        Kitchens.write(x, "d27=c");
        Check.equal("14: what was there is gone", 1, x.read());
    }

    // ---- 15: firstError

    /** Of what may stand behind a beginning each code is no error, each other one is. */
    private static void onlyBehind(String beginning, String allowed) {
        for (char code = 33; code <= 126; code++) {
            int length = beginning.length();
            int due = allowed.indexOf(code) >= 0 ? length + 1 : length;
            FatigueMenus x = Kitchens.write(new FatigueMenus(), beginning + code);
            Check.equal("15: of " + beginning + code, due, x.firstError());
            if (length < 59) {
                x.append('~');
                Check.equal("15: of " + beginning + code + "~", due, x.firstError());
            }
        }
    }

    private static void whatMayStandBehindWhat() {
        onlyBehind("", "d");
        onlyBehind("d", "0123456789");
        onlyBehind("d0", "=");
        onlyBehind("d1", "0123456789=");
        onlyBehind("d2", "01234567=");
        for (int day = 3; day < 28; day++) {
            onlyBehind("d" + day, "=");
        }
        for (int day = 0; day < 28; day++) {
            onlyBehind("d" + day + "=", "abcdefghijkl");
        }
        for (char letter = 'a'; letter <= 'l'; letter++) {
            onlyBehind("d5=" + letter, ";");
            onlyBehind("d15=" + letter, ";");
        }
        onlyBehind("d5=a;", "d");
        onlyBehind("d5=a;d", "0123456789");
        onlyBehind("d5=a;d2", "01234567=");
        onlyBehind("d5=a;d27", "=");
        onlyBehind("d5=a;d27=", "abcdefghijkl");
        onlyBehind("d5=a;d27=l", ";");
    }

    private static void firstErrorAtTheEnds() {
        Twins.asks("15: an empty buffer", 0, Kitchens::full, x -> x.firstError());
        Twins.asks("15: no error, not complete", 7, Kitchens::busy, x -> x.firstError());
        Twins.asks("15: the very first", 0, roastAnd("=d0=a"), x -> x.firstError());
        Twins.asks("15: the first of several", 3, roastAnd("d0=m;d99=z"), x -> x.firstError());
        Twins.asks("15: a plan longer than the buffer begins so", 60, roastAnd(times("d0=a;", 12)), x -> x.firstError());
        Twins.asks("15: the last one of 60", 59, roastAnd(times("d0=a;", 11) + "d0=a="), x -> x.firstError());
        String long1 = times("d10=a;", 9) + "d10=a";
        onlyBehind(long1, ";");
        onlyBehind(times("d0=a;", 11) + "d27=", "abcdefghijkl");
        onlyBehind(times("d0=a;", 11) + "d2", "01234567=");
    }

    // ---- 16: read

    private static final String[] INCOMPLETE = {
        "", "d", "d0", "d1", "d2", "d27", "d0=", "d27=", "d0=a;", "d0=a;d", "d0=a;d1", "d0=a;d1=", "d0=a;d1=c;",
        "=", "=a", "d=a", "0=a", "x0=a", "d28=a", "d30=a", "d99=a", "d100=a", "d00=a", "d01=a", "d-1=a", "d0=m", "d0=A",
        "d0=aa", "d0=a;;d1=c", ";d0=a", "d0=a,d1=c", "d0=a;d1=m", "d0==a", "d0=a;x=a", "D0=a", "d0:a",
    };

    private static void readOfWhatIsNoCompletePlan() {
        for (String text : INCOMPLETE) {
            Twins.noArgument("16: '" + text + "'", roastAnd(text), x -> x.read());
        }
        Twins.noArgument("16: 60 characters that end too early", roastAnd(times("d0=a;", 12)), x -> x.read());
        Twins.noArgument("16: with much beside it", Kitchens::busy, x -> x.read());
    }

    /** What is read once is as served one by one, but for the saved states. */
    private static void reads(String what, int due, Twins.Making making) {
        int saved = Math.min(6, making.make().count(13) + 1);
        Twins.answers("16: " + what, due, making, x -> x.read());
        Twins.Making then = () -> Twins.after(making, x -> x.read());
        Twins.answers("16: " + what + ": saved as one call", saved, then, x -> x.count(13));
        Twins.answers("16: " + what + ": the buffer is cleared", 0, then, x -> x.clearBuffer());
        Twins.alike("16: " + what + ", undone,", () -> Twins.after(making, x -> x.clearBuffer(), x -> x.exchange(0, 0), x -> x.undo()), () -> Twins.after(then, x -> x.undo()));
    }

    private static void readOfPlans() {
        reads("one entry of day 0", 1, roastAnd("d0=a"));
        reads("one entry of day 27", 1, roastAnd("d27=d"));
        reads("a source and its serving", 2, roastAnd("d0=a;d2=b"));
        reads("days in any order", 3, roastAnd("d27=d;d0=c;d13=a"));
        reads("a seventh state", 1, () -> Kitchens.write(Twins.after(Kitchens::busy, x -> x.clearBuffer()), "d20=d"));
        FatigueMenus x = roastAnd("d27=d;d0=c;d13=a;d14=b").make();
        Check.equal("16: all four", 4, x.read());
        Check.equal("16: the cake", 3, x.planned(27, 2));
        Check.equal("16: the soup", 2, x.planned(0, 0));
        Check.equal("16: the roast", 0, x.planned(13, 1));
        Check.equal("16: the hash", 1, x.planned(14, 1));
        Check.equal("16: and no more", 4, x.count(2));
    }

    private static void readOfEachDayAndDish() {
        for (int day = 0; day < 28; day++) {
            for (int dish = 0; dish < 12; dish++) {
                FatigueMenus x = Kitchens.write(Kitchens.twelve(), "d" + day + "=" + (char) ('a' + dish));
                Check.equal("16: day " + day + " dish " + dish, 1, x.read());
                Check.equal("16: where it is put", dish, x.planned(day, dish % 3));
                Check.equal("16: it alone", 1, x.count(2));
            }
        }
    }

    private static void readOfSixtyCharacters() {
        StringBuilder text = new StringBuilder("d10=b");
        for (int day = 0; day < 10; day++) {
            text.append(";d").append(day).append("=a");
        }
        text.append(";d9=c");
        Check.equal("16: all of the buffer", 60, text.length());
        reads("a plan of 60 characters", 12, () -> Kitchens.write(Kitchens.twelve(), text.toString()));
    }

    private static void readUpToTheFirstRefusedOne() {
        reads("the very first, no such dish", 0, roastAnd("d0=e;d1=c"));
        reads("no dish at all", 0, () -> Kitchens.write(new FatigueMenus(), "d0=a"));
        reads("the dish behind the last one", 1, roastAnd("d0=d;d0=e;d1=c"));
        reads("a part that was taken", 1, roastAnd("d1=c;d0=a;d2=c", x -> x.serve(0, 0)));
        reads("a part taken by an entry before", 1, roastAnd("d0=a;d0=a;d2=c"));
        reads("too dear for the week", 2, roastAnd("d0=a;d6=c;d3=d;d7=d", x -> x.set(2, 20)));
        reads("just the budget", 3, roastAnd("d0=a;d6=c;d3=d;d7=e", x -> x.set(2, 21)));
        reads("vetoed", 1, roastAnd("d0=a;d1=c;d2=a", x -> x.addGuest(), x -> x.come(0, 2), x -> x.veto(0, 2)));
        reads("a serving before its source", 0, roastAnd("d1=b;d0=a"));
        reads("a serving too late", 1, roastAnd("d0=a;d3=b;d1=c"));
        reads("the last one", 2, roastAnd("d0=a;d1=b;d2=b"));
        FatigueMenus x = roastAnd("d0=a;d0=b;d1=c").make();
        x.read();
        Check.equal("16: what stands before it is put", 0, x.planned(0, 1));
        Check.equal("16: what stands behind it is not", NONE, x.planned(1, 0));
    }

    // ---- 17: take

    private static void takeTellsHowManyThereAre() {
        for (int snapshot = 0; snapshot < 2; snapshot++) {
            int at = snapshot;
            Twins.unsaved("17: of an empty plan, " + at, 0, Kitchens::empty, x -> x.take(at));
            Twins.unsaved("17: of a full plan, " + at, 84, Kitchens::full, x -> x.take(at));
            Twins.unsaved("17: in place of another one, " + at, 8, Kitchens::busy, x -> x.take(at));
            Twins.alike("17: twice, " + at, () -> Twins.after(Kitchens::full, x -> x.take(at)), () -> Twins.after(Kitchens::full, x -> x.take(at), x -> x.take(at)));
            FatigueMenus x = Kitchens.full();
            x.take(at);
            Check.equal("17: one is taken", 1, x.count(12));
            Twins.noState("17: the other one is not, " + at, () -> Twins.after(Kitchens::full, y -> y.take(at)), y -> y.restore(1 - at));
        }
        for (int snapshot : Kitchens.NO_SNAPSHOTS) {
            Twins.noIndex("17: snapshot " + snapshot, Kitchens::busy, x -> x.take(snapshot));
        }
    }

    private static void takeKeepsThePlanAsItWas() {
        for (int snapshot = 0; snapshot < 2; snapshot++) {
            int at = snapshot;
            FatigueMenus x = Kitchens.full();
            x.take(at);
            x.take(1 - at);
            x.drop(0, 0);
            x.drop(27, 2);
            Check.equal("17: in place of the one before, " + at, 82, x.take(at));
            x.clear();
            Check.equal("17: the other one is as it was", 84, x.restore(1 - at));
            Check.equal("17: this one has the later plan", 82, x.restore(at));
            Check.equal("17: without the first dish", NONE, x.planned(0, 0));
            Check.equal("17: and the last one", NONE, x.planned(27, 2));
            Check.equal("17: but with all between", 2, x.planned(26, 2));
        }
    }

    private static void undoLeavesSnapshots() {
        FatigueMenus x = Kitchens.roast();
        x.serve(0, 0);
        x.take(0);
        x.undo();
        Check.equal("17: still taken", 1, x.count(12));
        Check.equal("17: with the plan that was undone", 1, x.restore(0));
    }

    // ---- 18: restore

    private static void restoreTellsHowManyThereAreThen() {
        for (int snapshot = 0; snapshot < 2; snapshot++) {
            int at = snapshot;
            Twins.undoable("18: an empty plan, " + at, 0, () -> Twins.after(Kitchens::empty, x -> x.take(at)), x -> x.restore(at));
            Twins.undoable("18: an empty plan in place of a full one, " + at, 0, () -> Twins.after(Kitchens::full, x -> x.clear(), x -> x.take(at), x -> x.undo()), x -> x.restore(at));
            Twins.undoable("18: a full one in place of an empty one, " + at, 84, () -> Twins.after(Kitchens::full, x -> x.take(at), x -> x.clear()), x -> x.restore(at));
            Twins.undoable("18: what is there already, " + at, 84, () -> Twins.after(Kitchens::full, x -> x.take(at)), x -> x.restore(at));
            Twins.undoable("18: twice, as it stays, " + at, 84, () -> Twins.after(Kitchens::full, x -> x.take(at), x -> x.restore(at), x -> x.clear()), x -> x.restore(at));
        }
        Twins.undoable("18: with much beside it", 2, Kitchens::busy, x -> x.restore(0));
        Twins.undoable("18: the other one", 5, Kitchens::busy, x -> x.restore(1));
    }

    private static void noSuchSnapshotToRestore() {
        for (int snapshot : Kitchens.NO_SNAPSHOTS) {
            Twins.noIndex("18: snapshot " + snapshot, Kitchens::busy, x -> x.restore(snapshot));
            Twins.noIndex("18: snapshot " + snapshot + ", none is taken", Kitchens::empty, x -> x.restore(snapshot));
        }
        for (int snapshot = 0; snapshot < 2; snapshot++) {
            int at = snapshot;
            Twins.noState("18: none is taken, " + at, Kitchens::full, x -> x.restore(at));
            Twins.noState("18: only the other one is, " + at, () -> Twins.after(Kitchens::full, x -> x.take(1 - at)), x -> x.restore(at));
        }
    }

    private static void restoreKeepsThePlanAlone() {
        FatigueMenus x = Kitchens.roast();
        x.serve(0, 2);
        x.take(1);
        x.serve(5, 3);
        x.set(0, 7);
        x.addDish(0, 1, 1, 1);
        x.addGuest();
        x.veto(0, 1);
        x.leave(2, 3, 6);
        Kitchens.write(x, "d1");
        x.restore(1);
        Check.equal("18: the soup is there", 2, x.planned(0, 0));
        Check.equal("18: the cake is not", NONE, x.planned(5, 2));
        Check.equal("18: the setting stays", 7, x.setting(0));
        Check.equal("18: the dish stays", 5, x.count(0));
        Check.equal("18: the guest's veto stays", 1, x.guest(0, 1));
        Check.equal("18: what the soup leaves stays", 3, x.dish(2, 4));
        Check.equal("18: the buffer stays", 2, x.clearBuffer());
    }

    private static void restoreOfADishThatThereIsNot() {
        Twins.Making last = () -> Twins.after(Kitchens::roast, x -> x.addDish(2, 1, 1, 1), x -> x.serve(27, 4), x -> x.take(0), x -> x.undo(), x -> x.undo());
        Twins.noState("18: its addition was undone", last, x -> x.restore(0));
        Twins.noState("18: it belongs to part 0 now", () -> Twins.after(last, x -> x.addDish(0, 1, 1, 1)), x -> x.restore(0));
        Twins.noState("18: it belongs to part 1 now", () -> Twins.after(last, x -> x.addDish(1, 1, 1, 1)), x -> x.restore(0));
        Twins.undoable("18: there is one of its part again", 1, () -> Twins.after(last, x -> x.addDish(2, 30, 5, 9)), x -> x.restore(0));
        Twins.Making only = () -> Twins.after(Kitchens::empty, x -> x.addDish(0, 1, 1, 1), x -> x.serve(0, 0), x -> x.take(1), x -> x.undo(), x -> x.undo());
        Twins.noState("18: without dishes", only, x -> x.restore(1));
        Twins.noState("18: dish 0 belongs to another part", () -> Twins.after(only, x -> x.addDish(1, 1, 1, 1)), x -> x.restore(1));
        Twins.undoable("18: dish 0 again", 1, () -> Twins.after(only, x -> x.addDish(0, 2, 2, 2)), x -> x.restore(1));
    }

    private static void restoreOfWhatIsVetoed() {
        for (int day : new int[] {0, 13, 27}) {
            int bit = 1 << day % 7;
            Twins.Making cake = () -> Twins.after(Kitchens::withGuests, x -> x.serve(day, 3), x -> x.take(0), x -> x.clear(), x -> x.veto(5, 4));
            Twins.noState("18: the cake of day " + day, cake, x -> x.restore(0));
            Twins.noState("18: on that day alone, " + day, () -> Twins.after(cake, x -> x.come(5, bit)), x -> x.restore(0));
            Twins.undoable("18: on all others than day " + day, 1, () -> Twins.after(cake, x -> x.come(5, 127 - bit)), x -> x.restore(0));
            Twins.undoable("18: another taste", 1, () -> Twins.after(cake, x -> x.veto(5, 59)), x -> x.restore(0));
        }
    }

    private static void restoreAboveTheBudget() {
        for (int week = 0; week < 4; week++) {
            int first = 7 * week;
            Twins.Making nine = () -> Twins.after(Kitchens::roast, x -> x.serve(first, 2), x -> x.serve(first + 6, 3), x -> x.take(1), x -> x.clear());
            Twins.noState("18: one above it, week " + week, () -> Twins.after(nine, x -> x.set(2, 8)), x -> x.restore(1));
            Twins.undoable("18: just at it, week " + week, 2, () -> Twins.after(nine, x -> x.set(2, 9)), x -> x.restore(1));
        }
    }

    private static void restoreOfWhatIsNotSound() {
        for (int days = 2; days <= 6; days++) {
            int within = days;
            Twins.Making hash = () -> Twins.after(Kitchens::roast, x -> x.leave(0, 1, within), x -> x.serve(9, 0), x -> x.serve(9 + within, 1), x -> x.take(0), x -> x.clear());
            Twins.undoable("18: just in time, " + days, 2, hash, x -> x.restore(0));
            Twins.noState("18: a day too late, " + days, () -> Twins.after(hash, x -> x.leave(0, 1, within - 1)), x -> x.restore(0));
            Twins.undoable("18: nothing is left any more, " + days, 2, () -> Twins.after(hash, x -> x.leave(0, NONE, 1)), x -> x.restore(0));
        }
        Twins.Making soup = () -> Twins.after(Kitchens::roast, x -> x.serve(0, 2), x -> x.take(0), x -> x.clear());
        Twins.noState("18: it comes to be a leftover", () -> Twins.after(soup, x -> x.leave(3, 2, 6)), x -> x.restore(0));
    }

    // ---- 19: undo

    private static void undoTellsHowManyAreLeft() {
        Twins.noState("19: none is saved", Kitchens::empty, x -> x.undo());
        Twins.noState("19: with a text alone", () -> Kitchens.write(new FatigueMenus(), "d0"), x -> x.undo());
        for (int calls = 1; calls <= 12; calls++) {
            FatigueMenus x = Kitchens.saved(calls);
            int saved = Math.min(6, calls);
            Check.equal("19: saved states", saved, x.count(13));
            for (int k = 1; k <= saved; k++) {
                Check.equal("19: left of " + calls, saved - k, x.undo());
                Check.equal("19: dishes then", calls - k, x.count(0));
                Check.equal("19: counted too", saved - k, x.count(13));
            }
            Check.noState("19: all are dropped", () -> x.undo());
            Check.equal("19: which changes nothing", calls - saved, x.count(0));
        }
    }

    private static void undoIsNotSaved() {
        FatigueMenus x = Kitchens.saved(3);
        x.undo();
        Check.equal("19: one less", 2, x.count(13));
        x.addGuest();
        Check.equal("19: one more", 3, x.count(13));
        Check.equal("19: back over the guest", 2, x.undo());
        Check.equal("19: dishes", 2, x.count(0));
        Check.equal("19: back over a dish", 1, x.undo());
        Check.equal("19: one dish", 1, x.count(0));
    }

    private static void savedStatesGoRound() {
        FatigueMenus x = Kitchens.saved(8);
        for (int k = 0; k < 4; k++) {
            x.undo();
        }
        Check.equal("19: four back", 4, x.count(0));
        for (int k = 0; k < 5; k++) {
            x.addGuest();
        }
        Check.equal("19: six again", 6, x.count(13));
        for (int k = 5; k >= 0; k--) {
            Check.equal("19: left", k, x.undo());
            Check.equal("19: guests then", Math.max(0, k - 1), x.count(1));
            Check.equal("19: dishes then", k == 0 ? 3 : 4, x.count(0));
        }
    }

    private static void undoBringsBackAllButTheBufferAndSnapshots() {
        FatigueMenus x = Kitchens.busy();
        x.addDish(0, 1, 1, 1);
        x.addGuest();
        x.set(1, 9);
        x.veto(0, 32);
        x.come(0, 7);
        x.leave(4, 1, 5);
        x.clearBuffer();
        Kitchens.write(x, "d27=l");
        x.take(0);
        for (int k = 0; k < 6; k++) {
            x.undo();
        }
        FatigueMenus y = Kitchens.busy();
        Check.equal("19: dishes", 5, x.count(0));
        Check.equal("19: guests", 2, x.count(1));
        Check.equal("19: the memory", 4, x.setting(1));
        Check.equal("19: the vetoes", 0, x.guest(0, 1));
        Check.equal("19: the days", 127, x.guest(0, 0));
        Check.equal("19: what it leaves", NONE, x.dish(4, 4));
        Check.equal("19: within no days", 0, x.dish(4, 5));
        Check.equal("19: the joy", y.count(3), x.count(3));
        Check.equal("19: the snapshot stays", 8, x.restore(0));
        Check.equal("19: the buffer stays", 5, x.firstError());
        Check.equal("19: it is as it was", 0, x.read());
    }

    public static void main(String[] args) {
        codesOfAppend();
        atMostSixtyCharacters();
        appendPutsItBehind();
        clearBufferTellsTheLengthThatItHad();
        whatMayStandBehindWhat();
        firstErrorAtTheEnds();
        readOfWhatIsNoCompletePlan();
        readOfPlans();
        readOfEachDayAndDish();
        readOfSixtyCharacters();
        readUpToTheFirstRefusedOne();
        takeTellsHowManyThereAre();
        takeKeepsThePlanAsItWas();
        undoLeavesSnapshots();
        restoreTellsHowManyThereAreThen();
        noSuchSnapshotToRestore();
        restoreKeepsThePlanAlone();
        restoreOfADishThatThereIsNot();
        restoreOfWhatIsVetoed();
        restoreAboveTheBudget();
        restoreOfWhatIsNotSound();
        undoTellsHowManyAreLeft();
        undoIsNotSaved();
        savedStatesGoRound();
        undoBringsBackAllButTheBufferAndSnapshots();
        Check.finish("EdgesOfTexts");
    }
}
