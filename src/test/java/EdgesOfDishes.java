/** Promises 1 to 7, sentence by sentence: the edges, and what a refused call leaves unchanged. */
public final class EdgesOfDishes {
    private static final int NONE = FatigueMenus.NONE;
    private static final int MIN = Integer.MIN_VALUE;
    private static final int MAX = Integer.MAX_VALUE;

    private EdgesOfDishes() {
    }

    // ---- 1: a new object

    private static void emptyPlanWithoutDishesAndGuests() {
        FatigueMenus x = new FatigueMenus();
        for (int day = 0; day < 28; day++) {
            for (int part = 0; part < 3; part++) {
                Check.equal("1: planned", NONE, x.planned(day, part));
                Check.equal("1: source", NONE, x.source(day, part));
                Check.equal("1: best", NONE, x.best(day, part));
            }
            for (int what = 0; what <= 4; what++) {
                Check.equal("1: day", 0, x.day(day, what));
            }
        }
        Twins.noIndex("1: no dish 0", Kitchens::empty, y -> y.dish(0, 0));
        Twins.noIndex("1: no guest 0", Kitchens::empty, y -> y.guest(0, 0));
        Twins.noState("1: no saved state", Kitchens::empty, y -> y.undo());
        Twins.noState("1: no snapshot 0", Kitchens::empty, y -> y.restore(0));
        Twins.noState("1: no snapshot 1", Kitchens::empty, y -> y.restore(1));
        Twins.asks("1: no sources", Double.doubleToLongBits(1.0), Kitchens::empty, y -> Double.doubleToLongBits(y.usedShare()));
    }

    private static void emptyBuffer() {
        Twins.answers("1: the buffer's length", 0, Kitchens::empty, x -> x.clearBuffer());
        Twins.answers("1: its first error", 0, Kitchens::empty, x -> x.firstError());
        Twins.noArgument("1: no plan in it", Kitchens::empty, x -> x.read());
    }

    private static void objectsShareNothing() {
        FatigueMenus old = Kitchens.busy();
        Twins.alike("1: a new one beside a busy one", Kitchens::empty, FatigueMenus::new);
        long before = old.digest();
        Kitchens.full().clear();
        Kitchens.busy().undo();
        Check.equal("1: the old one stays", before, old.digest());
    }

    // ---- 2: addDish

    private static final int[] LEAST = {0, 0, 0, 1};
    private static final int[] MOST = {2, 30, 5, 9};

    private static long addWith(FatigueMenus x, int place, int value) {
        int[] all = {1, 7, 2, 5};
        all[place] = value;
        return x.addDish(all[0], all[1], all[2], all[3]);
    }

    private static void rangesOfADish() {
        for (int place = 0; place < 4; place++) {
            int at = place;
            for (int value : new int[] {LEAST[place], MOST[place]}) {
                Twins.undoable("2: argument " + at + " is " + value, 5, Kitchens::busy, x -> addWith(x, at, value));
                FatigueMenus x = Kitchens.busy();
                addWith(x, at, value);
                Check.equal("2: it is kept", value, x.dish(5, at));
            }
            for (int value : new int[] {LEAST[place] - 1, MOST[place] + 1, MIN, MAX}) {
                Twins.noArgument("2: argument " + at + " is " + value, Kitchens::busy, x -> addWith(x, at, value));
                Twins.noArgument("2: argument before state, " + at + " is " + value, Kitchens::twelve, x -> addWith(x, at, value));
            }
        }
    }

    private static FatigueMenus eleven() {
        FatigueMenus x = new FatigueMenus();
        for (int k = 0; k < 11; k++) {
            Check.equal("2: its number", k, x.addDish(0, 0, 0, 1));
        }
        return x;
    }

    private static void atMostTwelveDishes() {
        Twins.undoable("2: the 12th dish", 11, EdgesOfDishes::eleven, x -> x.addDish(2, 30, 5, 9));
        Twins.noState("2: a 13th dish", Kitchens::twelve, x -> x.addDish(0, 0, 0, 1));
        Twins.answers("2: after an undo there is room", 11, () -> Twins.after(Kitchens::twelve, x -> x.undo()), x -> x.addDish(0, 0, 0, 1));
    }

    private static void aNewDishLeavesNothing() {
        FatigueMenus x = Kitchens.busy();
        x.addDish(2, 0, 0, 1);
        int[] due = {2, 0, 0, 1, NONE, 0, 0, 0, 0};
        for (int what = 0; what <= 8; what++) {
            Check.equal("2: of the new dish " + what, due[what], x.dish(5, what));
        }
        x.leave(5, 1, 6);
        x.leave(4, 5, 3);
        x.undo();
        x.undo();
        x.undo();
        x.addDish(1, 2, 3, 4);
        int[] again = {1, 2, 3, 4, NONE, 0, 0, 0, 0};
        for (int what = 0; what <= 8; what++) {
            Check.equal("2: of the one in its place " + what, again[what], x.dish(5, what));
        }
    }

    private static void eachOfTwelveKeepsItsOwn() {
        FatigueMenus x = new FatigueMenus();
        for (int k = 0; k < 12; k++) {
            x.addDish(k % 3, 30 - 2 * k, k % 6, 1 + k % 9);
        }
        for (int k = 0; k < 12; k++) {
            Check.equal("3: nothing before, dish " + k, NONE, x.leave(k, 11 - k, 1 + k % 6));
        }
        for (int k = 0; k < 12; k++) {
            int[] due = {k % 3, 30 - 2 * k, k % 6, 1 + k % 9, 11 - k, 1 + k % 6, 1, 0, 0};
            for (int what = 0; what <= 8; what++) {
                Check.equal("2: of twelve, dish " + k + " property " + what, due[what], x.dish(k, what));
            }
        }
    }

    private static void addDishIsUndoable() {
        Twins.undoable("2: the first state", 0, Kitchens::empty, x -> x.addDish(0, 0, 0, 1));
        Twins.undoable("2: the sixth state", 5, () -> Kitchens.saved(5), x -> x.addDish(0, 0, 0, 1));
        Twins.undoable("2: a seventh state", 6, () -> Kitchens.saved(6), x -> x.addDish(0, 0, 0, 1));
    }

    // ---- 3: leave

    private static void daysOfLeave() {
        for (int days : new int[] {1, 6}) {
            Twins.undoable("3: within days " + days, NONE, Kitchens::roast, x -> x.leave(3, 2, days));
            FatigueMenus x = Kitchens.roast();
            x.leave(3, 2, days);
            Check.equal("3: the days are kept", days, x.dish(3, 5));
        }
        for (int days : new int[] {0, 7, -1, MIN, MAX}) {
            Twins.noArgument("3: within days " + days, Kitchens::busy, x -> x.leave(3, 2, days));
            Twins.undoable("3: with NONE of no matter, " + days, 1, Kitchens::roast, x -> x.leave(0, NONE, days));
            FatigueMenus x = Kitchens.roast();
            x.leave(0, NONE, days);
            Check.equal("3: with NONE no days", 0, x.dish(0, 5));
        }
    }

    private static void noSuchDishToLeave() {
        for (int dish : new int[] {-1, 5, 12, MIN, MAX}) {
            Twins.noIndex("3: dish " + dish, Kitchens::busy, x -> x.leave(dish, 0, 1));
            Twins.noIndex("3: dish " + dish + " and NONE", Kitchens::busy, x -> x.leave(dish, NONE, 1));
            Twins.noIndex("3: twice " + dish, Kitchens::busy, x -> x.leave(dish, dish, 1));
            Twins.noIndex("3: index before argument, " + dish, Kitchens::busy, x -> x.leave(dish, 0, 0));
        }
        for (int other : new int[] {-2, 5, 12, MIN, MAX}) {
            Twins.noIndex("3: other " + other, Kitchens::busy, x -> x.leave(3, other, 1));
            Twins.noIndex("3: index before argument, other " + other, Kitchens::busy, x -> x.leave(3, other, 7));
        }
        Twins.noIndex("3: without dishes", Kitchens::empty, x -> x.leave(0, NONE, 1));
    }

    private static void bothAreTheSame() {
        Twins.noArgument("3: the first one itself", Kitchens::busy, x -> x.leave(0, 0, 1));
        Twins.noArgument("3: the last one itself", Kitchens::busy, x -> x.leave(4, 4, 6));
        Twins.noArgument("3: the same, and no days", Kitchens::busy, x -> x.leave(4, 4, 0));
        Twins.noArgument("3: the same before state", Kitchens::busy, x -> x.leave(2, 2, 3));
    }

    private static void leaveTellsWhatItLeftBefore() {
        Twins.undoable("3: nothing", NONE, Kitchens::busy, x -> x.leave(4, 1, 1));
        Twins.undoable("3: nothing again", NONE, Kitchens::busy, x -> x.leave(4, NONE, 1));
        Twins.undoable("3: the same again, which changes nothing", 1, Kitchens::busy, x -> x.leave(0, 1, 2));
        Twins.undoable("3: dish 0", 0, () -> Twins.after(Kitchens::roast, x -> x.leave(3, 0, 1)), x -> x.leave(3, 2, 1));
        Twins.undoable("3: what it left, then NONE", 1, Kitchens::roast, x -> x.leave(0, NONE, 1));
    }

    private static void inPlaceOfWhatItLeft() {
        FatigueMenus x = Kitchens.roast();
        x.leave(0, 2, 5);
        Check.equal("3: the new one is a leftover", 1, x.dish(2, 6));
        Check.equal("3: the old one is none", 0, x.dish(1, 6));
        Check.equal("3: it leaves the new one", 2, x.dish(0, 4));
        Check.equal("3: within the new days", 5, x.dish(0, 5));
    }

    /** The roast on day 3, hash so many days later. */
    private static FatigueMenus servedAfter(int days) {
        FatigueMenus x = Kitchens.roast();
        x.leave(0, 1, 6);
        x.serve(3, 0);
        x.serve(3 + days, 1);
        return x;
    }

    private static void leaveKeepsServingsInTime() {
        for (int days = 1; days <= 6; days++) {
            int after = days;
            Twins.undoable("3: just in time, " + days, 1, () -> servedAfter(after), x -> x.leave(0, 1, after));
            if (days > 1) {
                Twins.noState("3: a day too few, " + days, () -> servedAfter(after), x -> x.leave(0, 1, after - 1));
            }
            Twins.noArgument("3: argument before state, " + days, () -> servedAfter(after), x -> x.leave(0, 1, 0));
        }
    }

    private static void whatNothingLeavesNeedsNoSource() {
        Twins.undoable("3: hash is no leftover then", 1, () -> servedAfter(2), x -> x.leave(0, NONE, 0));
        Twins.undoable("3: nor when another one is left", 1, () -> servedAfter(2), x -> x.leave(0, 2, 1));
        Twins.Making leftByTwo = () -> Twins.after(() -> servedAfter(2), x -> x.leave(3, 1, 6));
        Twins.noState("3: it is left by another dish", leftByTwo, x -> x.leave(0, NONE, 0));
        Twins.noState("3: whose servings are not there", leftByTwo, x -> x.leave(0, 2, 1));
        Twins.undoable("3: but which are there now", 1, () -> Twins.after(leftByTwo, x -> x.serve(4, 3)), x -> x.leave(0, NONE, 0));
    }

    private static void aServingComesToBeALeftover() {
        Twins.Making soupAfterCake = () -> Twins.after(Kitchens::roast, x -> x.serve(8, 3), x -> x.serve(10, 2));
        Twins.noState("3: a day too late", soupAfterCake, x -> x.leave(3, 2, 1));
        Twins.undoable("3: in time", NONE, soupAfterCake, x -> x.leave(3, 2, 2));
        Twins.noState("3: before its source", soupAfterCake, x -> x.leave(2, 3, 6));
        Twins.noState("3: no source at all", soupAfterCake, x -> x.leave(1, 3, 6));
        Twins.noState("3: one for two servings", () -> Twins.after(soupAfterCake, x -> x.serve(11, 2)), x -> x.leave(3, 2, 6));
    }

    // ---- 4: addGuest

    private static FatigueMenus guests(int many) {
        FatigueMenus x = new FatigueMenus();
        for (int k = 0; k < many; k++) {
            x.addGuest();
        }
        return x;
    }

    private static void atMostSixGuests() {
        for (int k = 0; k < 6; k++) {
            int there = k;
            Twins.undoable("4: guest " + k, k, () -> guests(there), x -> x.addGuest());
        }
        Twins.noState("4: a 7th guest", () -> guests(6), x -> x.addGuest());
        Twins.noState("4: a 7th guest, beside dishes", Kitchens::withGuests, x -> x.addGuest());
        Twins.answers("4: after an undo there is room", 5, () -> Twins.after(() -> guests(6), x -> x.undo()), x -> x.addGuest());
    }

    private static void aNewGuestComesOnAllDaysWithoutVetoes() {
        FatigueMenus x = guests(6);
        for (int guest = 0; guest < 6; guest++) {
            Check.equal("4: comes on all days", 127, x.guest(guest, 0));
            Check.equal("4: no vetoes", 0, x.guest(guest, 1));
        }
        x.come(5, 0);
        x.veto(5, 63);
        x.undo();
        x.undo();
        x.undo();
        x.addGuest();
        Check.equal("4: the one in its place comes", 127, x.guest(5, 0));
        Check.equal("4: the one in its place has no vetoes", 0, x.guest(5, 1));
        Twins.undoable("4: to a plan that is there", 2, Kitchens::busy, y -> y.addGuest());
    }

    // ---- 5: come

    private static void daysOfAGuest() {
        for (int days : new int[] {0, 1, 64, 126, 127}) {
            Twins.undoable("5: days " + days, 127, Kitchens::busy, x -> x.come(0, days));
            FatigueMenus x = Kitchens.busy();
            x.come(0, days);
            Check.equal("5: they are kept", days, x.guest(0, 0));
            Check.equal("5: the other guest's stay", 96, x.guest(1, 0));
        }
        for (int days : new int[] {-1, 128, MIN, MAX}) {
            Twins.noArgument("5: days " + days, Kitchens::busy, x -> x.come(0, days));
        }
        Twins.undoable("5: the previous ones", 96, Kitchens::busy, x -> x.come(1, 3));
        Twins.undoable("5: the same again", 96, Kitchens::busy, x -> x.come(1, 96));
    }

    private static void noSuchGuestComes() {
        for (int guest : new int[] {-1, 2, 6, MIN, MAX}) {
            Twins.noIndex("5: guest " + guest, Kitchens::busy, x -> x.come(guest, 0));
            Twins.noIndex("5: index before argument, guest " + guest, Kitchens::busy, x -> x.come(guest, 128));
        }
        Twins.noIndex("5: without guests", Kitchens::empty, x -> x.come(0, 0));
    }

    /** A soup on the day, and guest 5, who would veto it but does not come. */
    private static FatigueMenus soupUnseen(int day) {
        FatigueMenus x = Kitchens.withGuests();
        x.come(5, 0);
        x.veto(5, 2);
        x.serve(day, 2);
        return x;
    }

    private static void comeWouldVeto() {
        for (int day = 0; day < 28; day++) {
            int on = day;
            int bit = 1 << day % 7;
            Twins.noState("5: to the soup of day " + day, () -> soupUnseen(on), x -> x.come(5, bit));
            Twins.noState("5: on all days, to that of day " + day, () -> soupUnseen(on), x -> x.come(5, 127));
            Twins.undoable("5: on all others than that of day " + day, 0, () -> soupUnseen(on), x -> x.come(5, 127 - bit));
            Twins.noArgument("5: argument before state, day " + day, () -> soupUnseen(on), x -> x.come(5, 128 + bit));
        }
        Twins.undoable("5: one without vetoes", 127, () -> soupUnseen(3), x -> x.come(4, 8));
        Twins.undoable("5: to an empty plan", 0, () -> Twins.after(() -> soupUnseen(3), x -> x.clear()), x -> x.come(5, 127));
    }

    // ---- 6: veto

    private static void tastesOfAVeto() {
        for (int tastes : new int[] {0, 1, 32, 62, 63}) {
            Twins.undoable("6: tastes " + tastes, 0, Kitchens::withGuests, x -> x.veto(5, tastes));
            FatigueMenus x = Kitchens.withGuests();
            x.veto(5, tastes);
            Check.equal("6: they are kept", tastes, x.guest(5, 1));
            Check.equal("6: the other guest's stay", 0, x.guest(4, 1));
        }
        for (int tastes : new int[] {-1, 64, MIN, MAX}) {
            Twins.noArgument("6: tastes " + tastes, Kitchens::busy, x -> x.veto(0, tastes));
        }
        Twins.undoable("6: the previous ones", 8, Kitchens::busy, x -> x.veto(1, 0));
        Twins.undoable("6: the same again", 8, Kitchens::busy, x -> x.veto(1, 8));
    }

    private static void noSuchGuestVetoes() {
        for (int guest : new int[] {-1, 2, 6, MIN, MAX}) {
            Twins.noIndex("6: guest " + guest, Kitchens::busy, x -> x.veto(guest, 0));
            Twins.noIndex("6: index before argument, guest " + guest, Kitchens::busy, x -> x.veto(guest, 64));
        }
        Twins.noIndex("6: without guests", Kitchens::empty, x -> x.veto(0, 0));
    }

    private static FatigueMenus tasteOn(int day, int taste) {
        FatigueMenus x = new FatigueMenus();
        x.addGuest();
        x.addDish(day % 3, 1, taste, 5);
        x.serve(day, 0);
        return x;
    }

    private static void vetoOfWhatIsPlanned() {
        for (int taste = 0; taste < 6; taste++) {
            int of = taste;
            int bit = 1 << taste;
            for (int day : new int[] {0, 13, 27}) {
                Twins.noState("6: taste " + taste + " of day " + day, () -> tasteOn(day, of), x -> x.veto(0, bit));
                Twins.noState("6: all tastes, of day " + day, () -> tasteOn(day, of), x -> x.veto(0, 63));
                Twins.undoable("6: all other tastes, of day " + day, 0, () -> tasteOn(day, of), x -> x.veto(0, 63 - bit));
                Twins.noArgument("6: argument before state, day " + day, () -> tasteOn(day, of), x -> x.veto(0, 64 + bit));
                Twins.Making away = () -> Twins.after(() -> tasteOn(day, of), x -> x.come(0, 127 - (1 << day % 7)));
                Twins.undoable("6: who does not come on day " + day, 0, away, x -> x.veto(0, 63));
            }
        }
    }

    // ---- 7: set

    private static final int[] LEAST_VALUE = {0, 1, 0};
    private static final int[] MOST_VALUE = {9, 10, 999};
    private static final int[] FIRST_VALUE = {2, 3, 200};

    private static void rangesOfSettings() {
        for (int setting = 0; setting < 3; setting++) {
            int at = setting;
            for (int value : new int[] {LEAST_VALUE[setting], MOST_VALUE[setting], FIRST_VALUE[setting]}) {
                Twins.undoable("7: setting " + at + " is " + value, FIRST_VALUE[setting], Kitchens::roast, x -> x.set(at, value));
                FatigueMenus x = Kitchens.roast();
                x.set(at, value);
                for (int other = 0; other < 3; other++) {
                    Check.equal("7: then setting " + other, other == at ? value : FIRST_VALUE[other], x.setting(other));
                }
            }
            for (int value : new int[] {LEAST_VALUE[setting] - 1, MOST_VALUE[setting] + 1, MIN, MAX}) {
                Twins.noArgument("7: setting " + at + " is " + value, Kitchens::busy, x -> x.set(at, value));
            }
        }
    }

    private static void noSuchSetting() {
        for (int setting : new int[] {-1, 3, MIN, MAX}) {
            Twins.noIndex("7: setting " + setting, Kitchens::busy, x -> x.set(setting, 5));
            Twins.noIndex("7: index before argument, setting " + setting, Kitchens::busy, x -> x.set(setting, -1));
        }
    }

    /** In the week a soup on the first day and a cake on the last one, 9 in all; beside it 5 at most. */
    private static FatigueMenus weekOfNine(int week) {
        FatigueMenus x = Kitchens.roast();
        x.serve(7 * week, 2);
        x.serve(7 * week + 6, 3);
        if (week > 0) {
            x.serve(7 * week - 1, 2);
        }
        if (week < 3) {
            x.serve(7 * week + 7, 2);
        }
        return x;
    }

    private static void budgetBelowACost() {
        for (int week = 0; week < 4; week++) {
            int of = week;
            Twins.undoable("7: just the cost of week " + week, 200, () -> weekOfNine(of), x -> x.set(2, 9));
            Twins.noState("7: one below the cost of week " + week, () -> weekOfNine(of), x -> x.set(2, 8));
            Twins.noState("7: nothing for week " + week, () -> weekOfNine(of), x -> x.set(2, 0));
            Twins.noArgument("7: argument before state, week " + week, () -> weekOfNine(of), x -> x.set(2, -1));
            Twins.undoable("7: another setting is no budget, week " + week, 2, () -> weekOfNine(of), x -> x.set(0, 0));
        }
    }

    public static void main(String[] args) {
        emptyPlanWithoutDishesAndGuests();
        emptyBuffer();
        objectsShareNothing();
        rangesOfADish();
        atMostTwelveDishes();
        aNewDishLeavesNothing();
        eachOfTwelveKeepsItsOwn();
        addDishIsUndoable();
        daysOfLeave();
        noSuchDishToLeave();
        bothAreTheSame();
        leaveTellsWhatItLeftBefore();
        inPlaceOfWhatItLeft();
        leaveKeepsServingsInTime();
        whatNothingLeavesNeedsNoSource();
        aServingComesToBeALeftover();
        atMostSixGuests();
        aNewGuestComesOnAllDaysWithoutVetoes();
        daysOfAGuest();
        noSuchGuestComes();
        comeWouldVeto();
        tastesOfAVeto();
        noSuchGuestVetoes();
        vetoOfWhatIsPlanned();
        rangesOfSettings();
        noSuchSetting();
        budgetBelowACost();
        Check.finish("EdgesOfDishes");
    }
}
