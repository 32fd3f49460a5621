/** Promises 27 to 33, sentence by sentence: the edges, and that asking changes nothing. */
public final class EdgesOfWhatWouldBe {
    private static final int NONE = FatigueMenus.NONE;
    private static final int MIN = Integer.MIN_VALUE;
    private static final int MAX = Integer.MAX_VALUE;
    private static final int[] NO_DISHES = {-1, 5, 12, MIN, MAX};

    private EdgesOfWhatWouldBe() {
    }

    private static FatigueMenus roastWith(Twins.Act... acts) {
        return Twins.after(Kitchens::roast, acts);
    }

    // ---- 27 to 31: what there must be

    private static void noSuchDay() {
        for (int day : Kitchens.NO_DAYS) {
            Twins.noIndex("27: day " + day, Kitchens::busy, x -> x.whyNot(day, 0, 0));
            Twins.noIndex("28: day " + day, Kitchens::busy, x -> x.joyOn(day, 0));
            Twins.noIndex("29: day " + day, Kitchens::busy, x -> x.best(day, 0));
            Twins.noIndex("30: day " + day, Kitchens::busy, x -> x.gain(day, 0));
            Twins.noIndex("27: day, part and dish " + day, Kitchens::busy, x -> x.whyNot(day, 3, 5));
        }
    }

    private static void noSuchPart() {
        for (int part : Kitchens.NO_PARTS) {
            Twins.noIndex("27: part " + part, Kitchens::busy, x -> x.whyNot(0, part, 0));
            Twins.noIndex("29: part " + part, Kitchens::busy, x -> x.best(0, part));
            Twins.noIndex("29: without dishes, part " + part, Kitchens::empty, x -> x.best(0, part));
        }
    }

    private static void noSuchDish() {
        for (int dish : NO_DISHES) {
            Twins.noIndex("27: dish " + dish, Kitchens::busy, x -> x.whyNot(0, 0, dish));
            Twins.noIndex("28: dish " + dish, Kitchens::busy, x -> x.joyOn(0, dish));
            Twins.noIndex("30: dish " + dish, Kitchens::busy, x -> x.gain(0, dish));
            Twins.noIndex("31: dish " + dish, Kitchens::busy, x -> x.bestDay(dish));
        }
        Twins.noIndex("27: without dishes", Kitchens::empty, x -> x.whyNot(0, 0, 0));
        Twins.noIndex("28: without dishes", Kitchens::empty, x -> x.joyOn(0, 0));
        Twins.noIndex("30: without dishes", Kitchens::empty, x -> x.gain(0, 0));
        Twins.noIndex("31: without dishes", Kitchens::empty, x -> x.bestDay(0));
        Twins.answers("31: the last of twelve", 0, Kitchens::twelve, x -> x.bestDay(11));
        Twins.noIndex("31: behind twelve", Kitchens::twelve, x -> x.bestDay(12));
    }

    private static void aDishThatWasJustAddedOrUndone() {
        Twins.asks("27: just added", 0, Kitchens::twelve, x -> x.whyNot(27, 2, 11));
        Twins.asks("28: just added", 9, Kitchens::twelve, x -> x.joyOn(27, 11));
        Twins.asks("29: just added", 11, () -> Twins.after(Kitchens::twelve, x -> x.undo(), x -> x.addDish(2, 0, 3, 9)), x -> x.best(27, 2));
        Twins.asks("30: just added", 9, Kitchens::twelve, x -> x.gain(27, 11));
        Twins.Making undone = () -> Twins.after(Kitchens::twelve, x -> x.set(0, 2), x -> x.undo(), x -> x.undo());
        Twins.noIndex("27: just undone", undone, x -> x.whyNot(27, 2, 11));
        Twins.noIndex("28: just undone", undone, x -> x.joyOn(27, 11));
        Twins.asks("29: just undone", 2, undone, x -> x.best(27, 2));
        Twins.noIndex("30: just undone", undone, x -> x.gain(27, 11));
        Twins.noIndex("31: just undone", undone, x -> x.bestDay(11));
    }

    // ---- 27: whyNot

    /** All five reasons speak against the hash on day 4 for part 0, but for those that are put away. */
    private static FatigueMenus against(boolean taken, boolean vetoed, boolean dear, boolean late) {
        FatigueMenus x = Kitchens.roast();
        x.addGuest();
        x.serve(late ? 0 : 3, 0);
        if (taken) {
            x.serve(4, 2);
            x.serve(4, 0);
        }
        x.come(0, 16);
        if (vetoed && !taken) {
            x.veto(0, 1);
        }
        x.set(2, dear ? x.count(8) : 999);
        return x;
    }

    private static void theFirstReasonIsTold() {
        for (int k = 0; k < 8; k++) {
            boolean vetoed = (k & 1) != 0;
            boolean dear = (k & 2) != 0;
            boolean late = (k & 4) != 0;
            String of = vetoed + " " + dear + " " + late;
            Twins.asks("27: reason 1 for its part " + of, 1, () -> against(true, vetoed, dear, late), x -> x.whyNot(4, 1, 1));
            Twins.asks("27: reason 1 for another part " + of, 1, () -> against(true, vetoed, dear, late), x -> x.whyNot(4, 0, 1));
            Twins.asks("27: reason 2 below its part " + of, 2, () -> against(false, vetoed, dear, late), x -> x.whyNot(4, 0, 1));
            Twins.asks("27: reason 2 above its part " + of, 2, () -> against(false, vetoed, dear, late), x -> x.whyNot(4, 2, 1));
            int due = vetoed ? 3 : dear ? 4 : late ? 5 : 0;
            Twins.asks("27: of its part " + of, due, () -> against(false, vetoed, dear, late), x -> x.whyNot(4, 1, 1));
        }
        Twins.asks("27: the day's other parts are free", 2, () -> roastWith(x -> x.serve(4, 0)), x -> x.whyNot(4, 0, 1));
    }

    private static void aDishIsVetoedByOneWhoComes() {
        for (int day = 0; day < 28; day++) {
            int on = day;
            int bit = 1 << day % 7;
            Twins.Making one = () -> Twins.after(Kitchens::withGuests, x -> x.veto(5, 2), x -> x.come(5, bit));
            Twins.answers("27: guest 5 comes on day " + day, 3, one, x -> x.whyNot(on, 0, 2));
            Twins.answers("27: but has no such veto, day " + day, 0, one, x -> x.whyNot(on, 2, 3));
            Twins.answers("27: and does not come on the next day", 0, one, x -> x.whyNot((on + 1) % 28 == 0 ? 1 : (on + 1) % 28, 0, 2));
            Twins.Making away = () -> Twins.after(one, x -> x.come(5, 127 - bit));
            Twins.answers("27: one comes, another one has the veto, day " + day, 0, away, x -> x.whyNot(on, 0, 2));
        }
    }

    private static void theCostOfTheWeekAboveTheBudget() {
        for (int day = 0; day < 28; day++) {
            int on = day;
            int first = day / 7 * 7;
            Twins.Making week = () -> roastWith(x -> x.serve(first, 0), x -> x.serve(first + 6, 0), x -> x.set(2, 29));
            Twins.answers("27: just the budget, day " + day, 0, week, x -> x.whyNot(on, 0, 2));
            Twins.answers("27: one above it, day " + day, 4, () -> Twins.after(week, x -> x.set(2, 28)), x -> x.whyNot(on, 0, 2));
        }
        Twins.Making nothing = () -> Twins.after(Kitchens::empty, x -> x.addDish(0, 0, 0, 1), x -> x.addDish(0, 1, 0, 1), x -> x.set(2, 0));
        Twins.asks("27: what costs nothing", 0, nothing, x -> x.whyNot(27, 0, 0));
        Twins.asks("27: what costs 1", 4, nothing, x -> x.whyNot(27, 0, 1));
        Twins.Making most = () -> Twins.after(Kitchens::full, x -> x.set(2, 21), x -> x.drop(5, 1));
        Twins.asks("27: the last place of a full week", 0, most, x -> x.whyNot(5, 1, 1));
    }

    private static void thePlanWouldNotBeSound() {
        for (int days = 1; days <= 6; days++) {
            int within = days;
            Twins.Making source = () -> roastWith(x -> x.leave(3, 2, within), x -> x.serve(10, 3));
            for (int day = 0; day < 28; day++) {
                int on = day;
                int due = day > 10 && day <= 10 + days ? 0 : 5;
                Twins.answers("27: within " + days + " days, day " + day, due, source, x -> x.whyNot(on, 0, 2));
            }
        }
        Twins.Making found = () -> roastWith(x -> x.serve(0, 0), x -> x.serve(2, 1));
        Twins.asks("27: a later serving would lose its source", 5, found, x -> x.whyNot(1, 1, 1));
        Twins.asks("27: one more source, one more serving", 0, () -> roastWith(x -> x.serve(0, 0), x -> x.serve(1, 0), x -> x.serve(3, 1)), x -> x.whyNot(2, 1, 1));
        Twins.asks("27: a source never makes it unsound", 0, found, x -> x.whyNot(1, 1, 0));
        Twins.Making ring = () -> roastWith(x -> x.leave(1, 0, 6), x -> x.leave(3, 0, 6), x -> x.serve(5, 3), x -> x.serve(6, 0));
        Twins.asks("27: a leftover that is a source", 0, ring, x -> x.whyNot(7, 1, 1));
        Twins.asks("27: a source that is a leftover", 5, ring, x -> x.whyNot(7, 1, 0));
    }

    private static void sourcesAndServingsOfEachPart() {
        for (int from = 0; from < 3; from++) {
            for (int to = 0; to < 3; to++) {
                FatigueMenus x = new FatigueMenus();
                x.addDish(from, 0, 0, 5);
                x.addDish(to, 0, 1, 5);
                x.leave(0, 1, 6);
                x.serve(20, 0);
                for (int day = 0; day < 28; day++) {
                    int due = day == 20 && from == to ? 1 : day > 20 && day <= 26 ? 0 : 5;
                    Check.equal("27: from part " + from + " to part " + to + ", day " + day, due, x.whyNot(day, to, 1));
                }
                x.serve(26, 1);
                Check.equal("24: from part " + from + " to part " + to, 20, x.source(26, to));
            }
        }
    }

    // ---- 28: joyOn

    private static void joyByTheDaysOfMemory() {
        for (int memory : new int[] {1, 2, 9, 10}) {
            for (int day : new int[] {0, 11, 27}) {
                Twins.Making one = () -> Twins.after(Kitchens::twelve, x -> x.set(1, memory), x -> x.serve(day, 1));
                for (int on = 0; on < 28; on++) {
                    int asked = on;
                    int due = on > day && on <= day + memory ? 7 : 9;
                    Twins.answers("28: memory " + memory + ", a dish on day " + day + ", day " + on, due, one, x -> x.joyOn(asked, 0));
                    Twins.answers("28: another taste, day " + on, 9, one, x -> x.joyOn(asked, 3));
                }
            }
        }
    }

    private static void joyAfterADishOfEachPart() {
        for (int memory = 1; memory <= 10; memory++) {
            for (int other = 0; other < 84; other++) {
                int on = other / 3;
                FatigueMenus x = Kitchens.twelve();
                x.set(1, memory);
                x.serve(on, other % 3);
                for (int day = 0; day < 28; day++) {
                    int due = day > on && day <= on + memory ? 7 : 9;
                    Check.equal("28: memory " + memory + ", after " + other + ", day " + day, due, x.joyOn(day, day % 3));
                }
            }
        }
    }

    private static void joyByTheTiring() {
        Twins.Making three = () -> Twins.after(Kitchens::twelve, x -> x.serve(4, 0), x -> x.serve(4, 1), x -> x.serve(4, 2));
        for (int tiring = 0; tiring <= 9; tiring++) {
            int of = tiring;
            Twins.Making tired = () -> Twins.after(three, x -> x.set(0, of));
            for (int part = 0; part < 3; part++) {
                int dish = part;
                Twins.asks("28: tiring " + tiring, Math.max(0, 9 - 3 * tiring), tired, x -> x.joyOn(5, dish));
                Twins.asks("28: on the day itself", 9, tired, x -> x.joyOn(4, dish));
            }
            Twins.asks("28: of one dish alone", 9 - tiring, () -> Twins.after(tired, x -> x.drop(4, 1), x -> x.drop(4, 2)), x -> x.joyOn(5, 0));
        }
        Twins.asks("28: all that can be in memory", 0, () -> Twins.after(Kitchens::full, x -> x.set(1, 10), x -> x.set(0, 1)), x -> x.joyOn(27, 0));
        Twins.asks("28: the days that there are", 9 - 3, () -> Twins.after(Kitchens::full, x -> x.set(1, 10), x -> x.set(0, 1)), x -> x.joyOn(3, 0));
    }

    private static void joyWhetherItCouldBePutThereOrNot() {
        Twins.asks("28: a taken part", 9, () -> roastWith(x -> x.serve(0, 0)), x -> x.joyOn(0, 0));
        Twins.asks("28: vetoed", 6, () -> Twins.after(Kitchens::withGuests, x -> x.veto(0, 63)), x -> x.joyOn(0, 2));
        Twins.asks("28: too dear", 9, () -> roastWith(x -> x.set(2, 0)), x -> x.joyOn(27, 0));
        Twins.asks("28: not sound", 4, Kitchens::roast, x -> x.joyOn(27, 1));
    }

    // ---- 29: best

    private static FatigueMenus mains(int... costsTastesJoys) {
        FatigueMenus x = new FatigueMenus();
        for (int k = 0; k + 2 < costsTastesJoys.length; k += 3) {
            x.addDish(1, costsTastesJoys[k], costsTastesJoys[k + 1], costsTastesJoys[k + 2]);
        }
        return x;
    }

    private static void theGreatestJoyOnThisDay() {
        for (int day : new int[] {0, 27}) {
            Twins.asks("29: the greatest joy, the last one", 2, () -> mains(1, 0, 4, 2, 0, 5, 30, 0, 6), x -> x.best(day, 1));
            Twins.asks("29: the greatest joy, the first one", 0, () -> mains(30, 0, 6, 2, 0, 5, 1, 0, 4), x -> x.best(day, 1));
            Twins.asks("29: of several the cheapest", 1, () -> mains(3, 0, 5, 1, 1, 5, 2, 2, 5), x -> x.best(day, 1));
            Twins.asks("29: of these the lowest number", 1, () -> mains(3, 0, 5, 2, 1, 5, 2, 2, 5), x -> x.best(day, 1));
            Twins.asks("29: all alike", 0, () -> mains(2, 0, 5, 2, 1, 5, 2, 2, 5), x -> x.best(day, 1));
        }
        Twins.Making tired = () -> Twins.after(() -> mains(9, 0, 6, 2, 1, 5), x -> x.serve(3, 0));
        Twins.asks("29: tired of the one", 1, tired, x -> x.best(4, 1));
        Twins.asks("29: tired of the later one", 0, () -> Twins.after(() -> mains(2, 1, 5, 9, 0, 6), x -> x.serve(3, 1)), x -> x.best(4, 1));
        Twins.asks("29: not tired any more", 0, tired, x -> x.best(7, 1));
        Twins.asks("29: just as much joy, so the cheapest", 1, () -> Twins.after(tired, x -> x.set(0, 1)), x -> x.best(4, 1));
        Twins.asks("29: without any joy the cheapest", 1, () -> Twins.after(() -> mains(9, 0, 9, 2, 0, 1), x -> x.set(0, 9), x -> x.serve(3, 0)), x -> x.best(4, 1));
    }

    private static void noDishThatCouldBePutThere() {
        Twins.asks("29: no dishes", NONE, Kitchens::empty, x -> x.best(0, 0));
        Twins.asks("29: none of the part", NONE, () -> mains(1, 1, 1), x -> x.best(0, 0));
        Twins.asks("29: none of the last part", NONE, () -> mains(1, 1, 1), x -> x.best(0, 2));
        Twins.asks("29: a taken part", NONE, Kitchens::full, x -> x.best(27, 2));
        Twins.asks("29: all vetoed", NONE, () -> Twins.after(Kitchens::withGuests, x -> x.veto(5, 63)), x -> x.best(1, 1));
        Twins.asks("29: too dear", NONE, () -> roastWith(x -> x.set(2, 4)), x -> x.best(1, 0));
        Twins.asks("29: the joyless one that is not too dear", 1, () -> Twins.after(() -> mains(9, 0, 6, 8, 1, 1), x -> x.set(2, 8)), x -> x.best(1, 1));
        Twins.asks("29: the one that is not vetoed", 1, () -> Twins.after(() -> mains(1, 0, 6, 8, 1, 1), x -> x.addGuest(), x -> x.veto(0, 1)), x -> x.best(1, 1));
        Twins.asks("29: the one that has a source", 2, () -> Twins.after(() -> mains(1, 0, 6, 1, 1, 9, 1, 2, 1), x -> x.leave(0, 1, 6), x -> x.leave(1, 0, 6)), x -> x.best(1, 1));
        Twins.asks("29: the last of twelve", 11, () -> Twins.after(Kitchens::twelve, x -> x.addGuest(), x -> x.veto(0, 7)), x -> x.best(1, 2));
    }

    // ---- 30: gain

    private static void gainIsHowMuchTheJoyGrows() {
        for (int day : new int[] {0, 13, 27}) {
            for (int memory : new int[] {1, 3, 10}) {
                Twins.Making all = () -> Twins.after(Kitchens::full, x -> x.addDish(1, 0, 0, 9), x -> x.set(1, memory), x -> x.set(0, 1), x -> x.drop(day, 1));
                FatigueMenus x = all.make();
                int before = x.count(3);
                x.serve(day, 3);
                Twins.asks("30: day " + day + " memory " + memory, x.count(3) - before, all, y -> y.gain(day, 3));
            }
        }
        Twins.Making two = () -> Twins.after(Kitchens::twelve, x -> x.serve(10, 0));
        for (int day = 0; day < 28; day++) {
            int on = day;
            int due = day < 7 || day > 13 || day == 10 ? 9 : 7;
            Twins.answers("30: beside day 10, day " + day, due, two, x -> x.gain(on, 1));
            Twins.answers("30: another taste, day " + day, 9, two, x -> x.gain(on, 4));
        }
    }

    /** Beside one dish of the same taste, in each part of each day. */
    private static void gainBesideOneOther() {
        for (int memory : new int[] {1, 3, 10}) {
            for (int other = 0; other < 84; other++) {
                int on = other / 3;
                FatigueMenus x = Kitchens.twelve();
                x.set(1, memory);
                x.serve(on, other % 3);
                for (int day = 0; day < 28; day++) {
                    for (int part = 0; part < 3; part++) {
                        boolean taken = day == on && part == other % 3;
                        int due = taken ? 0 : day != on && Math.abs(day - on) <= memory ? 7 : 9;
                        Check.equal("30: memory " + memory + ", beside " + other + ", day " + day + " part " + part, due, x.gain(day, part));
                    }
                }
            }
        }
    }

    private static void gainBelowZero() {
        Twins.Making two = () -> Twins.after(Kitchens::twelve, x -> x.serve(10, 0), x -> x.serve(11, 1), x -> x.set(0, 9));
        Twins.asks("30: it spoils the first one, the second one is spoilt", 0, two, x -> x.gain(9, 2));
        Twins.asks("30: between them nothing is left", 0, () -> Twins.after(two, x -> x.set(1, 1)), x -> x.gain(11, 2));
        Twins.Making three = () -> Twins.after(Kitchens::twelve, x -> x.addGuest(), x -> x.set(0, 4), x -> x.serve(9, 0), x -> x.serve(11, 1), x -> x.serve(12, 0), x -> x.set(1, 1));
        Twins.asks("30: before two others", 9 - 4 - 4, three, x -> x.gain(10, 2));
        Twins.asks("30: below 0", -1, () -> Twins.after(Kitchens::empty, x -> x.addDish(0, 0, 0, 3), x -> x.addDish(1, 0, 0, 9), x -> x.set(0, 4), x -> x.serve(5, 1)), x -> x.gain(4, 0));
        Twins.asks("30: not below 0 where nothing is lost", 3, () -> Twins.after(Kitchens::empty, x -> x.addDish(0, 0, 0, 3), x -> x.addDish(1, 0, 1, 9), x -> x.set(0, 4), x -> x.serve(5, 1)), x -> x.gain(4, 0));
    }

    private static void gainOfWhatCouldNotBePut() {
        Twins.asks("30: a taken part", 0, () -> roastWith(x -> x.serve(0, 0)), x -> x.gain(0, 0));
        Twins.asks("30: vetoed", 0, () -> Twins.after(Kitchens::withGuests, x -> x.veto(0, 2)), x -> x.gain(0, 2));
        Twins.asks("30: too dear", 0, () -> roastWith(x -> x.set(2, 11)), x -> x.gain(27, 0));
        Twins.asks("30: just the budget", 9, () -> roastWith(x -> x.set(2, 12)), x -> x.gain(27, 0));
        Twins.asks("30: not sound", 0, Kitchens::roast, x -> x.gain(27, 1));
        Twins.asks("30: sound", 2, () -> roastWith(x -> x.serve(26, 0)), x -> x.gain(27, 1));
    }

    // ---- 31: bestDay

    private static void theDayOfTheGreatestGain() {
        Twins.asks("31: of all alike the first", 0, Kitchens::roast, x -> x.bestDay(3));
        Twins.asks("31: the first day is taken", 1, () -> roastWith(x -> x.serve(0, 3), x -> x.set(0, 0)), x -> x.bestDay(3));
        Twins.asks("31: away from the same taste", 4, () -> roastWith(x -> x.serve(0, 3)), x -> x.bestDay(3));
        Twins.Making allButLast = () -> Twins.after(Kitchens::full, x -> x.drop(27, 2));
        Twins.asks("31: only the last day", 27, allButLast, x -> x.bestDay(2));
        Twins.asks("31: none is free", NONE, Kitchens::full, x -> x.bestDay(2));
        Twins.asks("31: without a source", NONE, Kitchens::roast, x -> x.bestDay(1));
        Twins.asks("31: only on the day after", 18, () -> roastWith(x -> x.leave(0, 1, 1), x -> x.serve(17, 0)), x -> x.bestDay(1));
        Twins.asks("31: too dear on all", NONE, () -> roastWith(x -> x.set(2, 11)), x -> x.bestDay(0));
        Twins.asks("31: too dear in the first weeks", 21, () -> roastWith(x -> x.serve(0, 2), x -> x.serve(7, 2), x -> x.serve(14, 2), x -> x.set(2, 16)), x -> x.bestDay(0));
        Twins.asks("31: vetoed on all days but one of the week", 6, () -> Twins.after(Kitchens::withGuests, x -> x.veto(5, 63), x -> x.come(5, 63)), x -> x.bestDay(2));
        Twins.asks("31: vetoed on all days", NONE, () -> Twins.after(Kitchens::withGuests, x -> x.veto(5, 2)), x -> x.bestDay(2));
    }

    /** A sweet of joy 1 that spoils mains of joy 9 on the day behind; all its other days are taken. */
    private static FatigueMenus spoiler(int... free) {
        FatigueMenus x = new FatigueMenus();
        x.addDish(2, 0, 0, 1);
        x.addDish(1, 0, 0, 9);
        x.addDish(2, 0, 5, 1);
        x.set(0, 9);
        x.set(1, 1);
        for (int day = 0; day < 28; day++) {
            boolean taken = true;
            for (int each : free) {
                taken = taken && each != day;
            }
            if (taken) {
                x.serve(day, 2);
            }
        }
        return x;
    }

    private static void bestDayOfWhatGainsNothing() {
        Twins.asks("31: all below 0, the greatest", 9, () -> Twins.after(() -> spoiler(4, 9), x -> x.serve(3, 1), x -> x.serve(5, 1), x -> x.serve(10, 1)), x -> x.bestDay(0));
        Twins.asks("31: all below 0 and alike, the first", 4, () -> Twins.after(() -> spoiler(4, 9), x -> x.serve(5, 1), x -> x.serve(10, 1)), x -> x.bestDay(0));
        Twins.asks("31: below 0, the only one", 9, () -> Twins.after(() -> spoiler(9), x -> x.serve(10, 1)), x -> x.bestDay(0));
        Twins.asks("31: 0 is above them", 27, () -> Twins.after(() -> spoiler(9, 27), x -> x.serve(10, 1), x -> x.serve(26, 1)), x -> x.bestDay(0));
        Twins.asks("31: a day that it could not be put on gains no 0", 9, () -> Twins.after(() -> spoiler(9), x -> x.serve(10, 1), x -> x.serve(26, 1)), x -> x.bestDay(0));
    }

    // ---- 32: usedShare

    private static void share(String what, double due, Twins.Making making) {
        Twins.asks("32: " + what, Double.doubleToLongBits(due), making, x -> Double.doubleToLongBits(x.usedShare()));
    }

    private static void shareOfSourcesThatAreNotWasted() {
        share("no sources at all", 1.0, Kitchens::empty);
        share("dishes that leave nothing", 1.0, Kitchens::full);
        share("none is served", 0.0, () -> roastWith(x -> x.serve(27, 0)));
        share("the only one is", 1.0, () -> roastWith(x -> x.serve(25, 0), x -> x.serve(27, 1)));
        share("one of three", 1.0 / 3.0, Kitchens::busy);
        share("no sources any more", 1.0, () -> roastWith(x -> x.serve(27, 0), x -> x.drop(27, 1)));
    }

    /** On the first days sources, behind them servings of a leftover of another part. */
    private static FatigueMenus served(int sources, int servings) {
        FatigueMenus x = new FatigueMenus();
        x.addDish(1, 0, 0, 5);
        x.addDish(2, 0, 1, 5);
        x.leave(0, 1, 6);
        for (int day = 0; day < sources; day++) {
            x.serve(day, 0);
        }
        for (int day = 1; day <= servings; day++) {
            x.serve(day, 1);
        }
        return x;
    }

    private static void shareOfEachFraction() {
        for (int sources = 1; sources <= 28; sources++) {
            for (int servings = 0; servings <= sources && servings < 28; servings++) {
                FatigueMenus x = served(sources, servings);
                Check.equal("32: " + servings + " of " + sources, (double) servings / sources, x.usedShare());
                Check.equal("33: " + servings + " of " + sources, hashOf(x, ""), x.digest());
            }
        }
    }

    // ---- 33: digest

    private static long hash;

    private static void add(long value) {
        hash = 31 * hash + value;
    }

    /** The document's list, asked value by value. */
    private static long hashOf(FatigueMenus x, String text) {
        hash = 2531;
        for (int what = 0; what <= 13; what++) {
            add(x.count(what));
        }
        for (int setting = 0; setting <= 2; setting++) {
            add(x.setting(setting));
        }
        for (int dish = 0; dish < x.count(0); dish++) {
            for (int what = 0; what <= 8; what++) {
                add(x.dish(dish, what));
            }
            add(x.bestDay(dish));
        }
        for (int guest = 0; guest < x.count(1); guest++) {
            for (int what = 0; what <= 2; what++) {
                add(x.guest(guest, what));
            }
        }
        for (int day = 0; day < 28; day++) {
            for (int what = 0; what <= 4; what++) {
                add(x.day(day, what));
            }
            for (int part = 0; part <= 2; part++) {
                add(x.planned(day, part));
                add(x.source(day, part));
                add(x.best(day, part));
            }
        }
        add(Double.doubleToLongBits(x.usedShare()));
        add(text.length());
        for (int k = 0; k < text.length(); k++) {
            add(text.charAt(k));
        }
        return hash;
    }

    private static void digests(String what, String text, Twins.Making making) {
        Twins.asks("33: " + what, hashOf(making.make(), text), making, x -> x.digest());
    }

    private static void digestOfTheList() {
        digests("a new one", "", Kitchens::empty);
        digests("much of all", "d9=c;d2", Kitchens::busy);
        digests("twelve dishes", "", Kitchens::twelve);
        digests("a full plan", "", Kitchens::full);
        digests("six guests", "", Kitchens::withGuests);
        digests("a text of one", "~", () -> Kitchens.write(new FatigueMenus(), "~"));
        StringBuilder text = new StringBuilder();
        for (int k = 0; k < 60; k++) {
            text.append((char) (33 + 91 * k % 94));
        }
        digests("a text of 60", text.toString(), () -> Kitchens.write(Kitchens.roast(), text.toString()));
        digests("a text that was cleared", "", () -> Twins.after(Kitchens::busy, x -> x.clearBuffer()));
        digests("a shorter text after a longer one", "d0", () -> Kitchens.write(Twins.after(Kitchens::busy, x -> x.clearBuffer()), "d0"));
        digests("after all undone", "d9=c;d2", () -> Twins.after(Kitchens::busy, x -> x.undo(), x -> x.undo(), x -> x.undo()));
    }

    private static void digestOfANewObject() {
        hash = 2531;
        for (int what = 0; what <= 13; what++) {
            add(0);
        }
        add(2);
        add(3);
        add(200);
        for (int day = 0; day < 28; day++) {
            for (int what = 0; what <= 4; what++) {
                add(0);
            }
            for (int what = 0; what < 9; what++) {
                add(NONE);
            }
        }
        add(Double.doubleToLongBits(1.0));
        add(0);
        Check.equal("33: of a new one", hash, new FatigueMenus().digest());
    }

    public static void main(String[] args) {
        noSuchDay();
        noSuchPart();
        noSuchDish();
        aDishThatWasJustAddedOrUndone();
        theFirstReasonIsTold();
        aDishIsVetoedByOneWhoComes();
        theCostOfTheWeekAboveTheBudget();
        thePlanWouldNotBeSound();
        sourcesAndServingsOfEachPart();
        joyByTheDaysOfMemory();
        joyAfterADishOfEachPart();
        joyByTheTiring();
        joyWhetherItCouldBePutThereOrNot();
        theGreatestJoyOnThisDay();
        noDishThatCouldBePutThere();
        gainIsHowMuchTheJoyGrows();
        gainBesideOneOther();
        gainBelowZero();
        gainOfWhatCouldNotBePut();
        theDayOfTheGreatestGain();
        bestDayOfWhatGainsNothing();
        shareOfSourcesThatAreNotWasted();
        shareOfEachFraction();
        digestOfTheList();
        digestOfANewObject();
        Check.finish("EdgesOfWhatWouldBe");
    }
}
