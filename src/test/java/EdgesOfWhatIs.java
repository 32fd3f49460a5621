/** Promises 20 to 26, sentence by sentence: the edges, and that asking changes nothing. */
public final class EdgesOfWhatIs {
    private static final int NONE = FatigueMenus.NONE;
    private static final int MIN = Integer.MIN_VALUE;
    private static final int MAX = Integer.MAX_VALUE;

    private EdgesOfWhatIs() {
    }

    private static FatigueMenus roastWith(Twins.Act... acts) {
        return Twins.after(Kitchens::roast, acts);
    }

    // ---- 20: planned

    private static void plannedOfEachPartOfEachDay() {
        for (int day = 0; day < 28; day++) {
            for (int part = 0; part < 3; part++) {
                FatigueMenus x = Kitchens.full();
                Check.equal("20: day " + day, part, x.planned(day, part));
                x.drop(day, part);
                Check.equal("20: dropped, day " + day, NONE, x.planned(day, part));
                FatigueMenus y = Kitchens.twelve();
                y.serve(day, 9 + part);
                for (int other = 0; other < 84; other++) {
                    int due = other == day * 3 + part ? 9 + part : NONE;
                    Check.equal("20: it alone, day " + day, due, y.planned(other / 3, other % 3));
                }
            }
        }
        Twins.asks("20: the first one", 2, Kitchens::busy, x -> x.planned(0, 0));
        Twins.asks("20: the last one", 3, Kitchens::busy, x -> x.planned(27, 2));
        Twins.asks("20: none", NONE, Kitchens::busy, x -> x.planned(27, 1));
    }

    private static void noSuchDayOrPart() {
        for (int day : Kitchens.NO_DAYS) {
            Twins.noIndex("20: day " + day, Kitchens::busy, x -> x.planned(day, 0));
            Twins.noIndex("20: day and part " + day, Kitchens::busy, x -> x.planned(day, 3));
            Twins.noIndex("24: day " + day, Kitchens::busy, x -> x.source(day, 1));
            Twins.noIndex("24: day and part " + day, Kitchens::busy, x -> x.source(day, -1));
        }
        for (int part : Kitchens.NO_PARTS) {
            Twins.noIndex("20: part " + part, Kitchens::busy, x -> x.planned(5, part));
            Twins.noIndex("24: part " + part, Kitchens::busy, x -> x.source(5, part));
        }
        Twins.noIndex("20: beside the last one", Kitchens::empty, x -> x.planned(27, 3));
        Twins.noIndex("20: beside the first one", Kitchens::empty, x -> x.planned(0, -1));
    }

    // ---- 21: dish

    private static void propertiesOfDishes() {
        int[][] due = {
            {1, 12, 0, 9, 1, 2, 0, 3, 2},
            {1, 3, 0, 4, NONE, 0, 1, 1, 0},
            {0, 5, 1, 6, NONE, 0, 0, 2, 0},
            {2, 4, 2, 7, NONE, 0, 0, 2, 0},
            {0, 2, 3, 3, NONE, 0, 0, 0, 0},
        };
        for (int dish = 0; dish < 5; dish++) {
            for (int what = 0; what <= 8; what++) {
                int of = dish;
                int property = what;
                Twins.asks("21: dish " + dish + " property " + what, due[dish][what], Kitchens::busy, x -> x.dish(of, property));
            }
        }
    }

    private static void noSuchDishOrProperty() {
        for (int dish : new int[] {-1, 5, 12, MIN, MAX}) {
            Twins.noIndex("21: dish " + dish, Kitchens::busy, x -> x.dish(dish, 0));
            Twins.noIndex("21: index before argument, dish " + dish, Kitchens::busy, x -> x.dish(dish, 9));
        }
        for (int what : new int[] {-1, 9, MIN, MAX}) {
            Twins.noArgument("21: property " + what, Kitchens::busy, x -> x.dish(4, what));
            Twins.noIndex("21: without dishes, property " + what, Kitchens::empty, x -> x.dish(0, what));
        }
        Twins.answers("21: the last of twelve", 9, Kitchens::twelve, x -> x.dish(11, 3));
        Twins.noIndex("21: behind twelve", Kitchens::twelve, x -> x.dish(12, 0));
    }

    private static void whatItLeavesWithinWhichDays() {
        for (int days = 1; days <= 6; days++) {
            FatigueMenus x = Kitchens.roast();
            x.leave(3, 0, days);
            Check.equal("21: it leaves dish 0", 0, x.dish(3, 4));
            Check.equal("21: within days", days, x.dish(3, 5));
            x.leave(3, NONE, days);
            Check.equal("21: it leaves none", NONE, x.dish(3, 4));
            Check.equal("21: no days then", 0, x.dish(3, 5));
        }
    }

    private static void aLeftoverIsLeftBySomeDish() {
        FatigueMenus x = Kitchens.roast();
        x.leave(2, 1, 1);
        Check.equal("21: left by two", 1, x.dish(1, 6));
        x.leave(0, NONE, 1);
        Check.equal("21: left by one", 1, x.dish(1, 6));
        x.leave(2, 0, 1);
        Check.equal("21: left by none", 0, x.dish(1, 6));
        Check.equal("21: dish 0 is left", 1, x.dish(0, 6));
        x.leave(0, 2, 3);
        Check.equal("21: two that leave each other", 1, x.dish(2, 6));
        Check.equal("21: two that leave each other", 1, x.dish(0, 6));
        FatigueMenus y = Kitchens.twelve();
        y.leave(11, 10, 1);
        Check.equal("21: left by the last one", 1, y.dish(10, 6));
        y.leave(10, 11, 1);
        Check.equal("21: the last one is left", 1, y.dish(11, 6));
    }

    private static void howOftenItIsInThePlan() {
        FatigueMenus x = Kitchens.full();
        for (int dish = 0; dish < 3; dish++) {
            Check.equal("21: on all days", 28, x.dish(dish, 7));
        }
        x.addDish(0, 1, 1, 1);
        Check.equal("21: on none", 0, x.dish(3, 7));
        x.drop(0, 0);
        x.drop(27, 0);
        Check.equal("21: on all but two", 26, x.dish(0, 7));
        x.serve(27, 3);
        Check.equal("21: on the last one", 1, x.dish(3, 7));
    }

    private static void howManyOfItsServingsAreWastedSources() {
        FatigueMenus x = Kitchens.roast();
        x.leave(3, 1, 6);
        x.serve(0, 0);
        x.serve(0, 3);
        Check.equal("21: the roast is wasted", 1, x.dish(0, 8));
        Check.equal("21: the cake is", 1, x.dish(3, 8));
        x.serve(1, 1);
        Check.equal("21: the roast ends first", 0, x.dish(0, 8));
        Check.equal("21: the cake is still wasted", 1, x.dish(3, 8));
        Check.equal("21: a serving is no source", 0, x.dish(1, 8));
        x.serve(2, 1);
        Check.equal("21: none is wasted", 0, x.dish(0, 8) + x.dish(3, 8));
        x.serve(27, 0);
        x.serve(26, 0);
        Check.equal("21: at the end of the days", 2, x.dish(0, 8));
        x.serve(27, 2);
        Check.equal("21: a dish that leaves nothing wastes nothing", 0, x.dish(2, 8));
        FatigueMenus y = Kitchens.full();
        y.addDish(2, 0, 0, 1);
        y.leave(0, 3, 6);
        Check.equal("21: all 28 are wasted", 28, y.dish(0, 8));
    }

    // ---- 22: guest

    private static void propertiesOfGuests() {
        int[][] due = {{127, 0, 8}, {96, 8, 1}};
        for (int guest = 0; guest < 2; guest++) {
            for (int what = 0; what <= 2; what++) {
                int of = guest;
                int property = what;
                Twins.asks("22: guest " + guest + " property " + what, due[guest][what], Kitchens::busy, x -> x.guest(of, property));
            }
        }
    }

    private static void noSuchGuestOrProperty() {
        for (int guest : new int[] {-1, 2, 6, MIN, MAX}) {
            Twins.noIndex("22: guest " + guest, Kitchens::busy, x -> x.guest(guest, 0));
            Twins.noIndex("22: index before argument, guest " + guest, Kitchens::busy, x -> x.guest(guest, 3));
        }
        for (int what : new int[] {-1, 3, MIN, MAX}) {
            Twins.noArgument("22: property " + what, Kitchens::busy, x -> x.guest(1, what));
            Twins.noIndex("22: without guests, property " + what, Kitchens::empty, x -> x.guest(0, what));
        }
        Twins.answers("22: the last of six", 127, Kitchens::withGuests, x -> x.guest(5, 0));
        Twins.noIndex("22: behind six", Kitchens::withGuests, x -> x.guest(6, 0));
    }

    private static void dishesOnDaysOnWhichAGuestComes() {
        for (int day = 0; day < 28; day++) {
            FatigueMenus x = Kitchens.withGuests();
            x.serve(day, 2);
            x.serve(day, 3);
            for (int rest = 0; rest < 7; rest++) {
                x.come(5, 1 << rest);
                Check.equal("22: day " + day + " and the rest " + rest, day % 7 == rest ? 2 : 0, x.guest(5, 2));
            }
            x.come(5, 0);
            Check.equal("22: who comes never", 0, x.guest(5, 2));
            Check.equal("22: who comes always", 2, x.guest(0, 2));
        }
        FatigueMenus y = Kitchens.full();
        y.addGuest();
        Check.equal("22: all of it", 84, y.guest(0, 2));
        y.come(0, 65);
        Check.equal("22: two days of the week", 24, y.guest(0, 2));
    }

    // ---- 23: day

    private static void propertiesOfDays() {
        int[][] due = {{2, 17, 15, 0, 1}, {1, 3, 1, 0, 1}, {0, 0, 0, 0, 1}};
        for (int day = 0; day < 3; day++) {
            for (int what = 0; what <= 4; what++) {
                int of = day;
                int property = what;
                Twins.asks("23: day " + day + " property " + what, due[day][what], Kitchens::busy, x -> x.day(of, property));
            }
        }
        int[] last = {1, 4, 7, 8, 2};
        for (int what = 0; what <= 4; what++) {
            int property = what;
            Twins.asks("23: the last day, property " + what, last[what], Kitchens::busy, x -> x.day(27, property));
        }
    }

    private static void noSuchDayOrProperty() {
        for (int day : Kitchens.NO_DAYS) {
            Twins.noIndex("23: day " + day, Kitchens::busy, x -> x.day(day, 0));
            Twins.noIndex("23: index before argument, day " + day, Kitchens::busy, x -> x.day(day, 5));
        }
        for (int what : new int[] {-1, 5, MIN, MAX}) {
            Twins.noArgument("23: property " + what, Kitchens::busy, x -> x.day(0, what));
        }
    }

    private static void dishesAndCostOfADay() {
        for (int day : new int[] {0, 6, 7, 27}) {
            FatigueMenus x = new FatigueMenus();
            for (int part = 0; part < 3; part++) {
                x.addDish(part, 30, part, 9);
                Check.equal("23: dishes of day " + day, part, x.day(day, 0));
                Check.equal("23: cost of day " + day, 30 * part, x.day(day, 1));
                Check.equal("23: joy of day " + day, 9 * part, x.day(day, 2));
                x.serve(day, part);
            }
            Check.equal("23: all parts of day " + day, 3, x.day(day, 0));
            Check.equal("23: all cost of day " + day, 90, x.day(day, 1));
            Check.equal("23: all joy of day " + day, 27, x.day(day, 2));
            for (int other = 0; other < 28; other++) {
                Check.equal("23: of no other day", other == day ? 3 : 0, x.day(other, 0));
                Check.equal("23: cost of no other day", other == day ? 90 : 0, x.day(other, 1));
            }
        }
    }

    private static void joyOfADayIsThatOfItsDishesOnIt() {
        FatigueMenus x = Kitchens.twelve();
        x.serve(3, 0);
        x.serve(3, 1);
        x.serve(5, 2);
        x.serve(5, 3);
        Check.equal("23: of one day nothing tires", 18, x.day(3, 2));
        Check.equal("23: tired of one dish by two", 9 - 4 + 9, x.day(5, 2));
        x.set(0, 9);
        Check.equal("23: at least 0 of each dish", 9, x.day(5, 2));
        x.set(1, 1);
        Check.equal("23: forgotten", 18, x.day(5, 2));
    }

    private static void tastesThatAreVetoedOnADay() {
        FatigueMenus x = Kitchens.withGuests();
        for (int guest = 0; guest < 6; guest++) {
            x.veto(guest, 1 << guest);
            x.come(guest, 1 << guest);
        }
        for (int day = 0; day < 28; day++) {
            Check.equal("23: of the one who comes on day " + day, day % 7 == 6 ? 0 : 1 << day % 7, x.day(day, 3));
            Check.equal("23: how many come on day " + day, day % 7 == 6 ? 0 : 1, x.day(day, 4));
        }
        x.come(0, 127);
        x.veto(0, 35);
        x.come(1, 127);
        for (int day = 0; day < 28; day++) {
            Check.equal("23: of those who come on day " + day, 35 | (day % 7 == 6 ? 0 : 1 << day % 7 & ~1), x.day(day, 3));
            Check.equal("23: those who come on day " + day, day % 7 < 2 || day % 7 == 6 ? 2 : 3, x.day(day, 4));
        }
        Twins.answers("23: all tastes", 63, () -> Twins.after(Kitchens::withGuests, y -> y.veto(5, 63)), y -> y.day(27, 3));
        Twins.answers("23: all guests", 6, Kitchens::withGuests, y -> y.day(27, 4));
        Twins.answers("23: no guests", 0, Kitchens::full, y -> y.day(27, 4));
    }

    // ---- 24: source

    private static void noDishOrNoLeftoverHasNoSource() {
        Twins.asks("24: no dish", NONE, Kitchens::busy, x -> x.source(20, 1));
        Twins.asks("24: no leftover", NONE, Kitchens::busy, x -> x.source(0, 1));
        Twins.asks("24: none of the part", NONE, Kitchens::busy, x -> x.source(1, 0));
        Twins.asks("24: day 0", 0, Kitchens::busy, x -> x.source(1, 1));
        Twins.asks("24: no leftover any more", NONE, () -> Twins.after(Kitchens::busy, x -> x.leave(0, NONE, 1)), x -> x.source(1, 1));
    }

    private static void noEmptyPlaceHasASource() {
        FatigueMenus x = Kitchens.busy();
        for (int day = 0; day < 28; day++) {
            for (int part = 0; part < 3; part++) {
                Check.equal("24: of all places one alone has a source, day " + day, day == 1 && part == 1 ? 0 : NONE, x.source(day, part));
            }
        }
    }

    private static void sourceFromTheNextDayOnUntilItsLastDay() {
        for (int days = 1; days <= 6; days++) {
            for (int day = 0; day + days < 28; day += 7) {
                for (int after = 1; after <= days; after++) {
                    FatigueMenus x = Kitchens.roast();
                    x.leave(0, 1, days);
                    x.serve(day, 0);
                    x.serve(day + after, 1);
                    Check.equal("24: " + after + " of " + days + " days after " + day, day, x.source(day + after, 1));
                }
            }
        }
        Twins.answers("24: to the last day of all", 21, () -> roastWith(x -> x.leave(3, 0, 6), x -> x.serve(21, 3), x -> x.serve(27, 0)), x -> x.source(27, 1));
    }

    private static void sourceOfEachDishToEachOther() {
        for (int from = 0; from < 12; from++) {
            for (int to = 0; to < 12; to++) {
                if (from != to) {
                    FatigueMenus x = Kitchens.twelve();
                    x.leave(from, to, 6);
                    x.serve(0, from);
                    x.serve(6, to);
                    Check.equal("24: from dish " + from + " to dish " + to, 0, x.source(6, to % 3));
                    Check.equal("24: it is used, dish " + from, 0, x.dish(from, 8));
                }
            }
        }
    }

    private static void theOneThatEndsFirstIsFound() {
        FatigueMenus x = new FatigueMenus();
        x.addDish(0, 0, 0, 5);
        x.addDish(1, 0, 1, 5);
        x.addDish(2, 0, 2, 5);
        x.leave(0, 2, 6);
        x.leave(1, 2, 2);
        x.serve(1, 0);
        x.serve(4, 1);
        x.serve(5, 2);
        Check.equal("24: the later one ends first", 4, x.source(5, 2));
        Check.equal("24: the other one is wasted", 1, x.dish(0, 8));
        x.leave(1, 2, 4);
        Check.equal("24: the earlier one ends first", 1, x.source(5, 2));
        x.serve(7, 2);
        Check.equal("24: found so far", 4, x.source(7, 2));
        x.leave(1, 2, 3);
        Check.equal("24: of equal ends the earliest day", 1, x.source(5, 2));
        Check.equal("24: the other one is left", 4, x.source(7, 2));
    }

    /** All parts leave the sweet dish 3. */
    private static FatigueMenus threeSources() {
        FatigueMenus x = new FatigueMenus();
        x.addDish(0, 0, 0, 5);
        x.addDish(1, 0, 1, 5);
        x.addDish(2, 0, 2, 5);
        x.addDish(2, 0, 3, 5);
        for (int dish = 0; dish < 3; dish++) {
            x.leave(dish, 3, 4);
            x.serve(10, dish);
        }
        return x;
    }

    private static void ofOneDayTheLowestPartIsFound() {
        FatigueMenus x = threeSources();
        for (int k = 1; k <= 3; k++) {
            for (int dish = 0; dish < 3; dish++) {
                Check.equal("24: wasted before serving " + k, dish < k - 1 ? 0 : 1, x.dish(dish, 8));
            }
            x.serve(10 + k, 3);
            Check.equal("24: all of the day", 10, x.source(10 + k, 2));
        }
        Twins.noState("24: each source once", () -> Twins.after(EdgesOfWhatIs::threeSources, y -> y.serve(11, 3), y -> y.serve(12, 3), y -> y.serve(13, 3)), y -> y.serve(14, 3));
        FatigueMenus z = threeSources();
        z.leave(2, 3, 3);
        z.serve(11, 3);
        Check.equal("24: the highest part ends first", 0, z.dish(2, 8));
        Check.equal("24: the lowest one is wasted", 1, z.dish(0, 8));
    }

    private static void servingsFindSourcesByAscendingDays() {
        FatigueMenus x = Kitchens.roast();
        x.leave(0, 1, 3);
        x.serve(0, 0);
        x.serve(1, 0);
        x.serve(3, 1);
        Check.equal("24: the later serving comes first", 0, x.source(3, 1));
        x.serve(2, 1);
        Check.equal("24: then the earlier one takes its source", 0, x.source(2, 1));
        Check.equal("24: and it finds the other one", 1, x.source(3, 1));
    }

    private static void leftoversInSeries() {
        FatigueMenus x = Kitchens.roast();
        x.addDish(1, 1, 3, 3);
        x.leave(1, 4, 1);
        x.serve(0, 0);
        x.serve(2, 1);
        x.serve(3, 4);
        Check.equal("24: hash from roast", 0, x.source(2, 1));
        Check.equal("24: the last one from hash", 2, x.source(3, 1));
        Twins.noState("24: in a ring the first one lacks a source", () -> roastWith(y -> y.serve(3, 0), y -> y.serve(4, 1)), y -> y.leave(1, 0, 6));
        Twins.Making ring = () -> roastWith(y -> y.leave(1, 0, 6));
        Twins.noState("24: none of a ring can begin", ring, y -> y.serve(3, 0));
        Twins.noState("24: neither of the two", ring, y -> y.serve(3, 1));
    }

    // ---- 25: count

    private static void eachCount() {
        int[] due = {5, 2, 8, 45, 57, 3, 2, 1, 32, 21, 0, 4, 2, 6};
        for (int what = 0; what <= 13; what++) {
            int of = what;
            Twins.asks("25: count " + what, due[what], Kitchens::busy, x -> x.count(of));
        }
        for (int what : new int[] {-1, 14, MIN, MAX}) {
            Twins.noArgument("25: count " + what, Kitchens::busy, x -> x.count(what));
        }
    }

    private static void countsOfAFullPlan() {
        FatigueMenus x = Kitchens.full();
        int[] due = {3, 0, 84, 3 * (9 + 7 + 5 + 25 * 3), 84, 0, 0, 28, 21, 21, 21, 21, 0, 6};
        for (int what = 0; what <= 13; what++) {
            Check.equal("25: full, count " + what, due[what], x.count(what));
        }
        x.drop(0, 0);
        x.drop(27, 2);
        Check.equal("25: days with all three parts", 26, x.count(7));
        Check.equal("25: the first week's cost", 20, x.count(8));
        Check.equal("25: the last week's cost", 20, x.count(11));
    }

    private static void costOfTheWeekOfEachDay() {
        for (int day = 0; day < 28; day++) {
            FatigueMenus x = Kitchens.roast();
            x.serve(day, 0);
            for (int week = 0; week < 4; week++) {
                Check.equal("25: day " + day + " in week " + week, day / 7 == week ? 12 : 0, x.count(8 + week));
            }
            Check.equal("25: cost of all", 12, x.count(4));
            Check.equal("25: a source on each day", 1, x.count(5));
            Check.equal("25: a wasted one", 1, x.count(6));
            Check.equal("25: no day with all three", 0, x.count(7));
        }
    }

    private static void countsOfSnapshotsAndSavedStates() {
        for (int first = 0; first < 2; first++) {
            FatigueMenus x = new FatigueMenus();
            Check.equal("25: no snapshot", 0, x.count(12));
            x.take(first);
            Check.equal("25: one snapshot", 1, x.count(12));
            x.take(first);
            Check.equal("25: the same again", 1, x.count(12));
            x.take(1 - first);
            Check.equal("25: both", 2, x.count(12));
        }
        for (int calls = 0; calls <= 8; calls++) {
            Check.equal("25: saved by " + calls, Math.min(6, calls), Kitchens.saved(calls).count(13));
        }
    }

    private static void sourcesAndWastedOnes() {
        FatigueMenus x = threeSources();
        Check.equal("25: three sources", 3, x.count(5));
        Check.equal("25: all wasted", 3, x.count(6));
        x.serve(11, 3);
        Check.equal("25: still three", 3, x.count(5));
        Check.equal("25: two wasted", 2, x.count(6));
        x.leave(2, NONE, 1);
        Check.equal("25: two sources", 2, x.count(5));
        Check.equal("25: one wasted", 1, x.count(6));
        x.leave(0, 3, 1);
        Check.equal("25: no more sources by fewer days", 2, x.count(5));
    }

    private static void aSourceInEachPlace() {
        for (int part = 0; part < 3; part++) {
            for (int day = 0; day < 28; day++) {
                FatigueMenus x = new FatigueMenus();
                x.addDish(part, 1, 0, 5);
                x.addDish(2 - part, 1, 1, 5);
                x.addDish(1, 1, 1, 5);
                x.leave(0, part == 1 ? 2 : 1, 6);
                x.serve(day, 0);
                Check.equal("25: a source on day " + day, 1, x.count(5));
                Check.equal("25: it is wasted", 1, x.count(6));
                Check.equal("25: by its dish", 1, x.dish(0, 8));
            }
        }
    }

    // ---- 26: setting

    private static void eachSetting() {
        int[] due = {3, 4, 60};
        for (int setting = 0; setting < 3; setting++) {
            int of = setting;
            Twins.asks("26: setting " + setting, due[setting], Kitchens::busy, x -> x.setting(of));
        }
        Twins.asks("26: the tiring at first", 2, Kitchens::empty, x -> x.setting(0));
        Twins.asks("26: the memory at first", 3, Kitchens::empty, x -> x.setting(1));
        Twins.asks("26: the budget at first", 200, Kitchens::empty, x -> x.setting(2));
        for (int setting : new int[] {-1, 3, MIN, MAX}) {
            Twins.noIndex("26: setting " + setting, Kitchens::busy, x -> x.setting(setting));
        }
    }

    public static void main(String[] args) {
        plannedOfEachPartOfEachDay();
        noSuchDayOrPart();
        propertiesOfDishes();
        noSuchDishOrProperty();
        whatItLeavesWithinWhichDays();
        aLeftoverIsLeftBySomeDish();
        howOftenItIsInThePlan();
        howManyOfItsServingsAreWastedSources();
        propertiesOfGuests();
        noSuchGuestOrProperty();
        dishesOnDaysOnWhichAGuestComes();
        propertiesOfDays();
        noSuchDayOrProperty();
        dishesAndCostOfADay();
        joyOfADayIsThatOfItsDishesOnIt();
        tastesThatAreVetoedOnADay();
        noDishOrNoLeftoverHasNoSource();
        noEmptyPlaceHasASource();
        sourceFromTheNextDayOnUntilItsLastDay();
        sourceOfEachDishToEachOther();
        theOneThatEndsFirstIsFound();
        ofOneDayTheLowestPartIsFound();
        servingsFindSourcesByAscendingDays();
        leftoversInSeries();
        eachCount();
        countsOfAFullPlan();
        costOfTheWeekOfEachDay();
        countsOfSnapshotsAndSavedStates();
        sourcesAndWastedOnes();
        aSourceInEachPlace();
        eachSetting();
        Check.finish("EdgesOfWhatIs");
    }
}
