/** Promises 8 to 12, sentence by sentence: the edges, and what a refused call leaves unchanged. */
public final class EdgesOfPlan {
    private static final int NONE = FatigueMenus.NONE;
    private static final int MIN = Integer.MIN_VALUE;
    private static final int MAX = Integer.MAX_VALUE;
    private static final int[] NO_DISHES = {-1, 5, 12, MIN, MAX};

    private EdgesOfPlan() {
    }

    private static FatigueMenus roastWith(Twins.Act... acts) {
        return Twins.after(Kitchens::roast, acts);
    }

    // ---- 8: serve

    private static void serveOnTheFirstAndTheLastDay() {
        for (int day : new int[] {0, 27}) {
            Twins.undoable("8: dish 0 on day " + day, 9, Kitchens::roast, x -> x.serve(day, 0));
            Twins.undoable("8: the last dish on day " + day, 7, Kitchens::roast, x -> x.serve(day, 3));
            FatigueMenus x = roastWith(y -> y.serve(day, 0), y -> y.serve(day, 2), y -> y.serve(day, 3));
            Check.equal("8: a first course", 2, x.planned(day, 0));
            Check.equal("8: a main course", 0, x.planned(day, 1));
            Check.equal("8: a sweet", 3, x.planned(day, 2));
            Check.equal("8: no more than these", 3, x.count(2));
        }
        Twins.undoable("8: with six saved states", 3, Kitchens::busy, x -> x.serve(18, 4));
    }

    private static void noSuchDayOrDishToServe() {
        for (int day : Kitchens.NO_DAYS) {
            Twins.noIndex("8: day " + day, Kitchens::busy, x -> x.serve(day, 2));
            Twins.noIndex("8: day and dish " + day, Kitchens::busy, x -> x.serve(day, 12));
        }
        for (int dish : NO_DISHES) {
            Twins.noIndex("8: dish " + dish, Kitchens::busy, x -> x.serve(20, dish));
            Twins.noIndex("8: index before state, dish " + dish, Kitchens::busy, x -> x.serve(7, dish));
        }
        Twins.noIndex("8: without dishes", Kitchens::empty, x -> x.serve(0, 0));
    }

    private static void aDayHasADishForThePart() {
        Twins.Making taken = () -> roastWith(x -> x.addDish(0, 0, 5, 9), x -> x.serve(4, 2));
        Twins.noState("8: the same dish again", taken, x -> x.serve(4, 2));
        Twins.noState("8: another dish of the part", taken, x -> x.serve(4, 4));
        Twins.undoable("8: a dish of another part", 9, taken, x -> x.serve(4, 0));
        Twins.undoable("8: the same dish the day before", 6, taken, x -> x.serve(3, 2));
        Twins.noState("8: dish 0 is a dish", () -> roastWith(x -> x.serve(4, 0)), x -> x.serve(4, 0));
    }

    private static void serveWhatIsVetoed() {
        Twins.Making vetoed = () -> Twins.after(Kitchens::withGuests, x -> x.come(5, 1), x -> x.veto(5, 2), x -> x.veto(4, 4), x -> x.come(4, 64));
        for (int day : new int[] {0, 7, 14, 21}) {
            Twins.noState("8: a soup when guest 5 comes", vetoed, x -> x.serve(day, 2));
            Twins.undoable("8: a cake then", 7, vetoed, x -> x.serve(day, 3));
            Twins.noState("8: a cake when guest 4 comes", vetoed, x -> x.serve(day + 6, 3));
            Twins.undoable("8: a soup then", 6, vetoed, x -> x.serve(day + 6, 2));
            Twins.undoable("8: a soup when neither comes", 6, vetoed, x -> x.serve(day + 1, 2));
        }
    }

    private static void serveWithinTheBudget() {
        for (int week = 0; week < 4; week++) {
            int first = 7 * week;
            Twins.Making dear = () -> roastWith(x -> x.serve(first, 2), x -> x.set(2, 9));
            Twins.undoable("8: just the budget", 7, dear, x -> x.serve(first + 6, 3));
            Twins.noState("8: one above it", () -> Twins.after(dear, x -> x.set(2, 8)), x -> x.serve(first + 6, 3));
            Twins.undoable("8: another week", 6, () -> Twins.after(dear, x -> x.set(2, 5)), x -> x.serve((first + 7) % 28, 2));
            Twins.undoable("8: the last day of another week", 6, () -> Twins.after(dear, x -> x.set(2, 5)), x -> x.serve((first + 27) % 28, 2));
        }
        Twins.Making nothing = () -> Twins.after(Kitchens::empty, x -> x.addDish(0, 0, 0, 1), x -> x.addDish(1, 1, 0, 1), x -> x.set(2, 0));
        Twins.undoable("8: what costs nothing without a budget", 1, nothing, x -> x.serve(0, 0));
        Twins.noState("8: what costs 1 without a budget", nothing, x -> x.serve(0, 1));
    }

    private static void serveALeftoverInTime() {
        for (int days = 1; days <= 6; days++) {
            int within = days;
            for (int day : new int[] {0, 5, 20}) {
                Twins.Making source = () -> roastWith(x -> x.leave(3, 2, within), x -> x.serve(day, 3));
                Twins.noState("8: on the day of its source", source, x -> x.serve(day, 2));
                Twins.undoable("8: on the next day", 6, source, x -> x.serve(day + 1, 2));
                Twins.undoable("8: on the last one", 6, source, x -> x.serve(day + within, 2));
                Twins.noState("8: one later", source, x -> x.serve(day + within + 1, 2));
                Twins.noState("8: without a source", source, x -> x.serve(day == 0 ? 27 : day - 1, 2));
            }
        }
        Twins.Making found = () -> roastWith(x -> x.serve(0, 0), x -> x.serve(2, 1));
        Twins.noState("8: found by a later serving", found, x -> x.serve(1, 1));
    }

    private static void serveTellsItsJoyOnThisDay() {
        Twins.Making tired = () -> roastWith(x -> x.addDish(2, 0, 0, 9), x -> x.serve(3, 0), x -> x.serve(3, 4));
        Twins.answers("8: tired of two dishes", 9 - 4, tired, x -> x.serve(4, 0));
        Twins.answers("8: of none", 9, tired, x -> x.serve(7, 0));
        Twins.answers("8: before them", 9, tired, x -> x.serve(2, 0));
        Twins.answers("8: at least 0", 0, () -> Twins.after(tired, x -> x.set(0, 9)), x -> x.serve(4, 1));
    }

    // ---- 9: drop

    private static void dropOnTheFirstAndTheLastDay() {
        for (int day : new int[] {0, 27}) {
            for (int part = 0; part < 3; part++) {
                int of = part;
                Twins.undoable("9: part " + of + " of day " + day, part, Kitchens::full, x -> x.drop(day, of));
                FatigueMenus x = Kitchens.full();
                x.drop(day, of);
                Check.equal("9: it is out", NONE, x.planned(day, of));
                Check.equal("9: no other is", 83, x.count(2));
            }
        }
    }

    private static void noSuchDayOrPartToDrop() {
        for (int day : Kitchens.NO_DAYS) {
            Twins.noIndex("9: day " + day, Kitchens::full, x -> x.drop(day, 0));
            Twins.noIndex("9: day and part " + day, Kitchens::full, x -> x.drop(day, 3));
        }
        for (int part : Kitchens.NO_PARTS) {
            Twins.noIndex("9: part " + part, Kitchens::full, x -> x.drop(5, part));
            Twins.noIndex("9: index before state, part " + part, Kitchens::empty, x -> x.drop(5, part));
        }
    }

    private static void thereIsNoneToDrop() {
        Twins.noState("9: an empty plan", Kitchens::empty, x -> x.drop(0, 0));
        Twins.noState("9: none of the part", Kitchens::busy, x -> x.drop(0, 2));
        Twins.noState("9: none on the day", Kitchens::busy, x -> x.drop(26, 2));
        Twins.noState("9: dropped already", () -> Twins.after(Kitchens::busy, x -> x.drop(27, 2)), x -> x.drop(27, 2));
    }

    private static void dropOfASource() {
        Twins.Making used = () -> roastWith(x -> x.serve(0, 0), x -> x.serve(2, 1));
        Twins.noState("9: the only source", used, x -> x.drop(0, 1));
        Twins.undoable("9: its serving", 1, used, x -> x.drop(2, 1));
        Twins.undoable("9: then the source", 0, () -> Twins.after(used, x -> x.drop(2, 1)), x -> x.drop(0, 1));
        Twins.undoable("9: a source with another one for its serving", 0, () -> Twins.after(used, x -> x.serve(1, 0)), x -> x.drop(0, 1));
        Twins.noState("9: the other one is not there on that day", () -> Twins.after(used, x -> x.serve(3, 0)), x -> x.drop(0, 1));
        Twins.undoable("9: a wasted one", 0, () -> Twins.after(used, x -> x.serve(3, 0)), x -> x.drop(3, 1));
        Twins.noState("9: two sources for two servings", () -> Twins.after(used, x -> x.leave(0, 1, 4), x -> x.serve(1, 0), x -> x.serve(3, 1)), x -> x.drop(0, 1));
        Twins.noState("9: the one that ends later is for the last serving", () -> Twins.after(used, x -> x.serve(1, 0), x -> x.drop(2, 1), x -> x.serve(3, 1)), x -> x.drop(1, 1));
    }

    // ---- 10: exchange

    private static void exchangeOfTheFirstAndTheLastDay() {
        Twins.undoable("10: day 0 with day 27", 16, () -> roastWith(x -> x.serve(0, 0), x -> x.serve(27, 3)), x -> x.exchange(0, 27));
        Twins.undoable("10: day 27 with day 0", 16, () -> roastWith(x -> x.serve(0, 0), x -> x.serve(27, 3)), x -> x.exchange(27, 0));
        FatigueMenus x = Kitchens.full();
        x.drop(0, 1);
        x.drop(27, 0);
        x.exchange(0, 27);
        int[] due = {0, NONE, 2, NONE, 1, 2};
        for (int part = 0; part < 3; part++) {
            Check.equal("10: on day 27 then", due[part], x.planned(27, part));
            Check.equal("10: on day 0 then", due[3 + part], x.planned(0, part));
            Check.equal("10: on day 1 still", part, x.planned(1, part));
            Check.equal("10: on day 26 still", part, x.planned(26, part));
        }
    }

    private static void exchangeThatChangesNothing() {
        Twins.undoable("10: two empty days", 0, Kitchens::empty, x -> x.exchange(3, 4));
        Twins.undoable("10: a day with itself, of an empty plan", 0, Kitchens::empty, x -> x.exchange(27, 27));
        Twins.Making three = () -> roastWith(x -> x.serve(0, 0), x -> x.serve(1, 1), x -> x.serve(0, 2));
        Twins.undoable("10: a day with itself", 9 + 2 + 6, three, x -> x.exchange(0, 0));
        FatigueMenus x = Twins.after(three, y -> y.exchange(0, 0));
        Check.equal("10: its dish is still there", 0, x.planned(0, 1));
    }

    private static void noSuchDayToExchange() {
        for (int day : Kitchens.NO_DAYS) {
            Twins.noIndex("10: day " + day, Kitchens::busy, x -> x.exchange(day, 0));
            Twins.noIndex("10: other " + day, Kitchens::busy, x -> x.exchange(0, day));
            Twins.noIndex("10: both " + day, Kitchens::busy, x -> x.exchange(day, day));
        }
    }

    private static void exchangeIntoAVeto() {
        Twins.Making soup = () -> Twins.after(Kitchens::withGuests, x -> x.serve(1, 2), x -> x.come(5, 8), x -> x.veto(5, 2));
        for (int day : new int[] {3, 10, 17, 24}) {
            Twins.noState("10: the soup to day " + day, soup, x -> x.exchange(1, day));
            Twins.noState("10: the soup to day " + day + ", told from there", soup, x -> x.exchange(day, 1));
            Twins.undoable("10: the soup to the day after", 6, soup, x -> x.exchange(1, day + 1));
            Twins.undoable("10: the soup to the day before", 6, soup, x -> x.exchange(day - 1, 1));
        }
        Twins.undoable("10: the guest vetoes no more", 6, () -> Twins.after(soup, x -> x.veto(5, 61)), x -> x.exchange(1, 3));
    }

    /** On day 0 and day 1 a dish that costs 10, on day 7 one that costs 11. */
    private static FatigueMenus tens(int budget) {
        FatigueMenus x = new FatigueMenus();
        x.addDish(0, 10, 0, 5);
        x.addDish(0, 11, 1, 5);
        x.set(0, 0);
        x.serve(0, 0);
        x.serve(1, 0);
        x.serve(7, 1);
        x.set(2, budget);
        return x;
    }

    private static void exchangeAboveTheBudget() {
        Twins.noState("10: week 0 one above it", () -> tens(20), x -> x.exchange(0, 7));
        Twins.noState("10: told from the other day", () -> tens(20), x -> x.exchange(7, 0));
        Twins.undoable("10: week 0 just at it", 15, () -> tens(21), x -> x.exchange(0, 7));
        Twins.noState("10: week 1 one above it", () -> tens(20), x -> x.exchange(1, 13));
        Twins.undoable("10: week 1 just at it", 15, () -> tens(21), x -> x.exchange(1, 13));
        Twins.undoable("10: a week that was empty", 15, () -> tens(20), x -> x.exchange(1, 14));
        Twins.undoable("10: within the week", 15, () -> tens(20), x -> x.exchange(0, 6));
        Twins.noState("10: week 3 one above it", () -> Twins.after(() -> tens(20), x -> x.serve(27, 1)), x -> x.exchange(1, 21));
    }

    private static void exchangeKeepsThePlanSound() {
        Twins.Making hash = () -> roastWith(x -> x.serve(2, 0), x -> x.serve(4, 1));
        Twins.undoable("10: the source a day later", 9 + 2, hash, x -> x.exchange(2, 3));
        Twins.undoable("10: the serving a day earlier", 9 + 2, hash, x -> x.exchange(3, 4));
        Twins.noState("10: the source a day earlier", hash, x -> x.exchange(1, 2));
        Twins.noState("10: the serving a day later", hash, x -> x.exchange(4, 5));
        Twins.noState("10: the source after the serving", hash, x -> x.exchange(2, 5));
        Twins.noState("10: the serving before the source", hash, x -> x.exchange(4, 1));
        Twins.noState("10: both", hash, x -> x.exchange(2, 4));
        Twins.undoable("10: days of neither", 9 + 2, hash, x -> x.exchange(3, 27));
        Twins.Making moved = () -> Twins.after(hash, x -> x.drop(4, 1), x -> x.serve(4, 3));
        Twins.noState("10: source and serving on one day", () -> roastWith(x -> x.leave(3, 1, 6), x -> x.serve(0, 3), x -> x.serve(6, 1)), x -> x.exchange(0, 7));
        Twins.undoable("10: what is dropped needs no source", 9 + 7, moved, x -> x.exchange(2, 4));
    }

    private static void exchangeTellsTheJoyThen() {
        Twins.Making roasts = () -> roastWith(x -> x.serve(0, 0), x -> x.serve(1, 0));
        Twins.answers("10: apart they please more", 18, roasts, x -> x.exchange(1, 4));
        Twins.answers("10: still in memory", 9 + 7, roasts, x -> x.exchange(1, 3));
        Twins.answers("10: together less", 9 + 7, () -> roastWith(x -> x.serve(0, 0), x -> x.serve(20, 0)), x -> x.exchange(20, 2));
    }

    // ---- 11: fill

    private static void fillTheFirstAndTheLastDay() {
        for (int day : new int[] {0, 27}) {
            Twins.undoable("11: day " + day, 3, Kitchens::roast, x -> x.fill(day));
            FatigueMenus x = roastWith(y -> y.fill(day));
            int[] due = {2, 0, 3};
            for (int part = 0; part < 3; part++) {
                Check.equal("11: part " + part, due[part], x.planned(day, part));
            }
            Check.equal("11: nothing but that day", 3, x.count(2));
        }
        for (int day : Kitchens.NO_DAYS) {
            Twins.noIndex("11: day " + day, Kitchens::busy, x -> x.fill(day));
        }
    }

    private static void fillOnlyPartsWithoutADish() {
        Twins.Making cheap = () -> roastWith(x -> x.addDish(0, 0, 5, 1), x -> x.addDish(1, 0, 5, 1), x -> x.addDish(2, 0, 5, 1));
        for (int part = 0; part < 3; part++) {
            int of = part;
            Twins.Making one = () -> Twins.after(cheap, x -> x.serve(9, 4 + of));
            Twins.undoable("11: two parts beside part " + of, 2, one, x -> x.fill(9));
            Check.equal("11: the one that was there stays", 4 + of, Twins.after(one, x -> x.fill(9)).planned(9, of));
            Twins.Making two = () -> Twins.after(one, x -> x.fill(9), x -> x.drop(9, of));
            Twins.undoable("11: the last free part " + of, 1, two, x -> x.fill(9));
        }
        Twins.undoable("11: a full day", 0, Kitchens::full, x -> x.fill(27));
    }

    private static void fillWithoutABestDish() {
        Twins.undoable("11: no dishes", 0, Kitchens::empty, x -> x.fill(0));
        Twins.undoable("11: only a sweet", 1, () -> Twins.after(Kitchens::empty, x -> x.addDish(2, 1, 1, 1)), x -> x.fill(0));
        Twins.undoable("11: all vetoed", 0, () -> Twins.after(Kitchens::withGuests, x -> x.veto(0, 63)), x -> x.fill(13));
        Twins.undoable("11: without a budget", 0, () -> roastWith(x -> x.set(2, 0)), x -> x.fill(13));
        Twins.undoable("11: a leftover without a source", 2, () -> roastWith(x -> x.leave(0, NONE, 1), x -> x.leave(3, 0, 1), x -> x.leave(2, 1, 1)), x -> x.fill(13));
    }

    private static void fillByAscendingParts() {
        Twins.undoable("11: soup, then cake, the roast is too dear", 2, () -> roastWith(x -> x.set(2, 9)), x -> x.fill(6));
        Twins.undoable("11: after the soup there is nothing", 1, () -> roastWith(x -> x.set(2, 8)), x -> x.fill(6));
        Twins.undoable("11: only the cake", 1, () -> roastWith(x -> x.set(2, 4)), x -> x.fill(6));
        FatigueMenus x = roastWith(y -> y.set(2, 17), y -> y.fill(6));
        Check.equal("11: soup and roast take it all", NONE, x.planned(6, 2));
        Check.equal("11: the roast is there", 0, x.planned(6, 1));
        Twins.Making sameDay = () -> Twins.after(Kitchens::empty, y -> y.addDish(0, 1, 0, 5), y -> y.addDish(1, 1, 0, 5), y -> y.leave(0, 1, 6));
        Twins.undoable("11: a dish of the day is no source on it", 1, sameDay, y -> y.fill(3));
        Twins.undoable("11: it is on the next day", 2, () -> Twins.after(sameDay, y -> y.fill(3)), y -> y.fill(4));
    }

    private static void fillTakesTheBestDish() {
        Twins.Making three = () -> Twins.after(Kitchens::empty, x -> x.addDish(1, 5, 0, 6), x -> x.addDish(1, 4, 1, 5), x -> x.addDish(1, 3, 2, 5), x -> x.addDish(1, 3, 3, 5));
        Check.equal("11: the greatest joy", 0, Twins.after(three, x -> x.fill(1)).planned(1, 1));
        Check.equal("11: tired of it, the cheapest, of these the lowest number", 2, Twins.after(three, x -> x.serve(0, 0), x -> x.fill(1)).planned(1, 1));
    }

    private static void fillIsUndoable() {
        Twins.undoable("11: the sixth state", 3, () -> Kitchens.saved(5), x -> x.fill(2));
        Twins.undoable("11: a seventh state", 3, () -> Kitchens.saved(6), x -> x.fill(2));
        Twins.undoable("11: a seventh state that changes nothing", 0, () -> Twins.after(Kitchens::full, x -> x.fill(2)), x -> x.fill(2));
    }

    // ---- 12: clear

    private static void clearTellsHowManyThereWere() {
        Twins.undoable("12: an empty plan", 0, Kitchens::empty, x -> x.clear());
        Twins.undoable("12: one on the first day", 1, () -> roastWith(x -> x.serve(0, 2)), x -> x.clear());
        Twins.undoable("12: one on the last day", 1, () -> roastWith(x -> x.serve(27, 3)), x -> x.clear());
        Twins.undoable("12: all 84", 84, Kitchens::full, x -> x.clear());
        Twins.undoable("12: sources and servings", 8, Kitchens::busy, x -> x.clear());
        Twins.undoable("12: twice", 0, () -> Twins.after(Kitchens::busy, x -> x.clear()), x -> x.clear());
    }

    private static void clearEmptiesThePlanAlone() {
        FatigueMenus x = Kitchens.full();
        x.addGuest();
        x.veto(0, 1 << 5);
        x.set(2, 100);
        x.clear();
        for (int day = 0; day < 28; day++) {
            for (int part = 0; part < 3; part++) {
                Check.equal("12: day " + day, NONE, x.planned(day, part));
            }
        }
        Check.equal("12: its dishes", 3, x.count(0));
        Check.equal("12: its guest", 32, x.guest(0, 1));
        Check.equal("12: its budget", 100, x.setting(2));
    }

    public static void main(String[] args) {
        serveOnTheFirstAndTheLastDay();
        noSuchDayOrDishToServe();
        aDayHasADishForThePart();
        serveWhatIsVetoed();
        serveWithinTheBudget();
        serveALeftoverInTime();
        serveTellsItsJoyOnThisDay();
        dropOnTheFirstAndTheLastDay();
        noSuchDayOrPartToDrop();
        thereIsNoneToDrop();
        dropOfASource();
        exchangeOfTheFirstAndTheLastDay();
        exchangeThatChangesNothing();
        noSuchDayToExchange();
        exchangeIntoAVeto();
        exchangeAboveTheBudget();
        exchangeKeepsThePlanSound();
        exchangeTellsTheJoyThen();
        fillTheFirstAndTheLastDay();
        fillOnlyPartsWithoutADish();
        fillWithoutABestDish();
        fillByAscendingParts();
        fillTakesTheBestDish();
        fillIsUndoable();
        clearTellsHowManyThereWere();
        clearEmptiesThePlanAlone();
        Check.finish("EdgesOfPlan");
    }
}
