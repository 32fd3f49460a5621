import java.util.Arrays;

/**
 * Menus that are planned: dishes, leftovers, guests with vetoes, a budget for
 * each week, plans as texts, snapshots and undo. The document tells what each
 * call does; README.md tells how to use the class and how to test it.
 */
public final class FatigueMenus {
    public static final int NONE = -1;

    private static final int PARTS = 3;
    private static final int DAYS = 28;
    private static final int DAYS_OF_WEEK = 7;
    private static final int WEEKS = 4;
    private static final int CELLS = 84;

    private static final int MOST_DISHES = 12;
    private static final int MOST_COST = 30;
    private static final int TASTES = 6;
    private static final int MOST_JOY = 9;
    private static final int MOST_LEFT_DAYS = 6;
    private static final int MOST_GUESTS = 6;
    private static final int ALL_DAYS = 127;
    private static final int ALL_TASTES = 63;

    private static final int SETTINGS = 3;
    private static final int TIRING = 0;
    private static final int MEMORY = 1;
    private static final int BUDGET = 2;

    private static final int SNAPSHOTS = 2;
    private static final int MOST_SAVED = 6;
    private static final int MOST_CODES = 60;

    private static final int IT_CAN = 0;
    private static final int PART_IS_TAKEN = 1;
    private static final int OTHER_PART = 2;
    private static final int VETOED = 3;
    private static final int TOO_DEAR = 4;
    private static final int UNSOUND = 5;

    private final State now;
    private final State trial;
    private final Leftovers leftovers;
    private final Outlook outlook;
    private final History history;
    private final Snapshots snapshots;
    private final PlanText text;

    public FatigueMenus() {
        now = new State();
        trial = new State();
        leftovers = new Leftovers();
        outlook = new Outlook(now, leftovers);
        history = new History();
        snapshots = new Snapshots();
        text = new PlanText();
    }

    // ---- dishes, guests, settings

    public int addDish(int part, int cost, int taste, int joy)
            throws IllegalArgumentException, IllegalStateException {
        if (!isWithin(part, 0, PARTS - 1) || !isWithin(cost, 0, MOST_COST)
                || !isWithin(taste, 0, TASTES - 1) || !isWithin(joy, 1, MOST_JOY)) {
            throw new IllegalArgumentException("an argument is out of range");
        }
        if (now.dishCount >= MOST_DISHES) {
            throw new IllegalStateException("there are 12 dishes");
        }
        history.save(now);
        return now.newDish(part, cost, taste, joy);
    }

    public int leave(int dish, int other, int days)
            throws IndexOutOfBoundsException, IllegalArgumentException, IllegalStateException {
        if (!now.hasDish(dish) || other != NONE && !now.hasDish(other)) {
            throw new IndexOutOfBoundsException("no such dish");
        }
        if (dish == other || other != NONE && !isWithin(days, 1, MOST_LEFT_DAYS)) {
            throw new IllegalArgumentException("days out of range, or both dishes are the same");
        }
        trial.copyFrom(now);
        put(trial.left, dish, other);
        put(trial.leftDays, dish, other == NONE ? 0 : days);
        if (!leftovers.areSound(trial)) {
            throw new IllegalStateException("the plan would not be sound");
        }
        int before = at(now.left, dish);
        takeOverTrial();
        return before;
    }

    public int addGuest() throws IllegalStateException {
        if (now.guestCount >= MOST_GUESTS) {
            throw new IllegalStateException("there are 6 guests");
        }
        history.save(now);
        return now.newGuest();
    }

    public int come(int guest, int days)
            throws IndexOutOfBoundsException, IllegalArgumentException, IllegalStateException {
        if (!now.hasGuest(guest)) {
            throw new IndexOutOfBoundsException("no such guest");
        }
        if (!isWithin(days, 0, ALL_DAYS)) {
            throw new IllegalArgumentException("days out of range");
        }
        trial.copyFrom(now);
        put(trial.comes, guest, days);
        if (trial.hasVetoedDish()) {
            throw new IllegalStateException("a dish in the plan would be vetoed");
        }
        int before = at(now.comes, guest);
        takeOverTrial();
        return before;
    }

    public int veto(int guest, int tastes)
            throws IndexOutOfBoundsException, IllegalArgumentException, IllegalStateException {
        if (!now.hasGuest(guest)) {
            throw new IndexOutOfBoundsException("no such guest");
        }
        if (!isWithin(tastes, 0, ALL_TASTES)) {
            throw new IllegalArgumentException("tastes out of range");
        }
        trial.copyFrom(now);
        put(trial.vetoes, guest, tastes);
        if (trial.hasVetoedDish()) {
            throw new IllegalStateException("a dish in the plan would be vetoed");
        }
        int before = at(now.vetoes, guest);
        takeOverTrial();
        return before;
    }

    public int set(int setting, int value)
            throws IndexOutOfBoundsException, IllegalArgumentException, IllegalStateException {
        if (!isWithin(setting, 0, SETTINGS - 1)) {
            throw new IndexOutOfBoundsException("no such setting");
        }
        if (!isWithin(value, leastValue(setting), greatestValue(setting))) {
            throw new IllegalArgumentException("value out of range");
        }
        trial.copyFrom(now);
        put(trial.settings, setting, value);
        if (trial.isAboveBudget()) {
            throw new IllegalStateException("the cost of a week would be above the budget");
        }
        int before = at(now.settings, setting);
        takeOverTrial();
        return before;
    }

    // ---- the plan

    public int serve(int day, int dish) throws IndexOutOfBoundsException, IllegalStateException {
        if (!isDay(day) || !now.hasDish(dish)) {
            throw new IndexOutOfBoundsException("no such day or dish");
        }
        int part = at(now.parts, dish);
        if (outlook.reasonAgainst(day, part, dish) != IT_CAN) {
            throw new IllegalStateException("there is a reason against it");
        }
        history.save(now);
        put(now.plan, cellOf(day, part), dish);
        return outlook.joyOfDish(day, dish);
    }

    public int drop(int day, int part) throws IndexOutOfBoundsException, IllegalStateException {
        if (!isDay(day) || !isPart(part)) {
            throw new IndexOutOfBoundsException("no such day or part");
        }
        int cell = cellOf(day, part);
        int dish = at(now.plan, cell);
        if (dish == NONE) {
            throw new IllegalStateException("there is no dish");
        }
        trial.copyFrom(now);
        put(trial.plan, cell, NONE);
        if (!leftovers.areSound(trial)) {
            throw new IllegalStateException("the plan would not be sound");
        }
        takeOverTrial();
        return dish;
    }

    public int exchange(int day, int other) throws IndexOutOfBoundsException, IllegalStateException {
        if (!isDay(day) || !isDay(other)) {
            throw new IndexOutOfBoundsException("no such day");
        }
        trial.copyFrom(now);
        trial.exchangeMeals(day, other);
        if (!canStand(trial)) {
            throw new IllegalStateException("the plan could not stand");
        }
        takeOverTrial();
        return outlook.joyOfPlan();
    }

    public int fill(int day) throws IndexOutOfBoundsException {
        if (!isDay(day)) {
            throw new IndexOutOfBoundsException("no such day");
        }
        history.save(now);
        int filled = 0;
        for (int part = 0; part < PARTS; part++) {
            // A part that has a dish has no best one either: each is refused there.
            int dish = outlook.bestDish(day, part);
            if (dish != NONE) {
                put(now.plan, cellOf(day, part), dish);
                filled++;
            }
        }
        return filled;
    }

    public int clear() {
        int dishes = now.planCount();
        history.save(now);
        Arrays.fill(now.plan, NONE);
        return dishes;
    }

    // ---- texts, snapshots

    public int append(int code) throws IllegalArgumentException, IllegalStateException {
        if (!isWithin(code, 33, 126)) {
            throw new IllegalArgumentException("code is not 33 to 126");
        }
        if (text.length >= MOST_CODES) {
            throw new IllegalStateException("the buffer has 60 characters");
        }
        text.addCode(code);
        return text.length;
    }

    public int clearBuffer() {
        int length = text.length;
        text.makeEmpty();
        return length;
    }

    public int firstError() {
        return text.errorIndex();
    }

    public int read() throws IllegalArgumentException {
        if (!text.isComplete()) {
            throw new IllegalArgumentException("the buffer is not a complete plan");
        }
        history.save(now);
        int served = 0;
        int entries = text.entryCount();
        boolean goesOn = true;
        for (int entry = 0; entry < entries && goesOn; entry++) {
            int start = text.startOf(entry);
            goesOn = servesIfItCan(text.dayFrom(start), text.dishFrom(start));
            if (goesOn) {
                served++;
            }
        }
        text.makeEmpty();
        return served;
    }

    public int take(int snapshot) throws IndexOutOfBoundsException {
        if (!isWithin(snapshot, 0, SNAPSHOTS - 1)) {
            throw new IndexOutOfBoundsException("no such snapshot");
        }
        snapshots.keep(snapshot, now.plan);
        return now.planCount();
    }

    public int restore(int snapshot) throws IndexOutOfBoundsException, IllegalStateException {
        if (!isWithin(snapshot, 0, SNAPSHOTS - 1)) {
            throw new IndexOutOfBoundsException("no such snapshot");
        }
        if (!snapshots.isTaken(snapshot)) {
            throw new IllegalStateException("the snapshot was not taken");
        }
        trial.copyFrom(now);
        snapshots.copyTo(snapshot, trial.plan);
        if (trial.hasStrangeDish() || !canStand(trial)) {
            throw new IllegalStateException("the plan could not stand");
        }
        takeOverTrial();
        return now.planCount();
    }

    public int undo() throws IllegalStateException {
        if (history.size == 0) {
            throw new IllegalStateException("there is no saved state");
        }
        history.bringBack(now);
        return history.size;
    }

    // ---- what there is

    public int planned(int day, int part) throws IndexOutOfBoundsException {
        if (!isDay(day) || !isPart(part)) {
            throw new IndexOutOfBoundsException("no such day or part");
        }
        return at(now.plan, cellOf(day, part));
    }

    public int dish(int dish, int what) throws IndexOutOfBoundsException, IllegalArgumentException {
        if (!now.hasDish(dish)) {
            throw new IndexOutOfBoundsException("no such dish");
        }
        if (!isWithin(what, 0, 8)) {
            throw new IllegalArgumentException("what is not 0 to 8");
        }
        return figureOfDish(dish, what);
    }

    public int guest(int guest, int what) throws IndexOutOfBoundsException, IllegalArgumentException {
        if (!now.hasGuest(guest)) {
            throw new IndexOutOfBoundsException("no such guest");
        }
        if (!isWithin(what, 0, 2)) {
            throw new IllegalArgumentException("what is not 0 to 2");
        }
        return figureOfGuest(guest, what);
    }

    public int day(int day, int what) throws IndexOutOfBoundsException, IllegalArgumentException {
        if (!isDay(day)) {
            throw new IndexOutOfBoundsException("no such day");
        }
        if (!isWithin(what, 0, 4)) {
            throw new IllegalArgumentException("what is not 0 to 4");
        }
        return figureOfDay(day, what);
    }

    public int source(int day, int part) throws IndexOutOfBoundsException {
        if (!isDay(day) || !isPart(part)) {
            throw new IndexOutOfBoundsException("no such day or part");
        }
        return leftovers.sourceDay(now, cellOf(day, part));
    }

    public int count(int what) throws IllegalArgumentException {
        if (!isWithin(what, 0, 13)) {
            throw new IllegalArgumentException("what is not 0 to 13");
        }
        return figureOfAll(what);
    }

    public int setting(int setting) throws IndexOutOfBoundsException {
        if (!isWithin(setting, 0, SETTINGS - 1)) {
            throw new IndexOutOfBoundsException("no such setting");
        }
        return at(now.settings, setting);
    }

    // ---- what would be; nothing is changed

    public int whyNot(int day, int part, int dish) throws IndexOutOfBoundsException {
        if (!isDay(day) || !isPart(part) || !now.hasDish(dish)) {
            throw new IndexOutOfBoundsException("no such day, part or dish");
        }
        return outlook.reasonAgainst(day, part, dish);
    }

    public int joyOn(int day, int dish) throws IndexOutOfBoundsException {
        if (!isDay(day) || !now.hasDish(dish)) {
            throw new IndexOutOfBoundsException("no such day or dish");
        }
        return outlook.joyOfDish(day, dish);
    }

    public int best(int day, int part) throws IndexOutOfBoundsException {
        if (!isDay(day) || !isPart(part)) {
            throw new IndexOutOfBoundsException("no such day or part");
        }
        return outlook.bestDish(day, part);
    }

    public int gain(int day, int dish) throws IndexOutOfBoundsException {
        if (!isDay(day) || !now.hasDish(dish)) {
            throw new IndexOutOfBoundsException("no such day or dish");
        }
        if (outlook.reasonAgainst(day, at(now.parts, dish), dish) != IT_CAN) {
            return 0;
        }
        return outlook.growth(day, dish);
    }

    public int bestDay(int dish) throws IndexOutOfBoundsException {
        if (!now.hasDish(dish)) {
            throw new IndexOutOfBoundsException("no such dish");
        }
        return outlook.bestDayOf(dish);
    }

    public double usedShare() {
        int sources = now.sourceCount();
        if (sources <= 0) {
            return 1.0;
        }
        int used = sources - leftovers.wastedOfAll(now);
        return (double) used / (double) sources;
    }

    public long digest() {
        long hash = 2531L;
        for (int what = 0; what <= 13; what++) {
            hash = 31L * hash + figureOfAll(what);
        }
        for (int setting = 0; setting < SETTINGS; setting++) {
            hash = 31L * hash + at(now.settings, setting);
        }
        for (int dish = 0; dish < now.dishCount; dish++) {
            for (int what = 0; what <= 8; what++) {
                hash = 31L * hash + figureOfDish(dish, what);
            }
            hash = 31L * hash + outlook.bestDayOf(dish);
        }
        for (int guest = 0; guest < now.guestCount; guest++) {
            for (int what = 0; what <= 2; what++) {
                hash = 31L * hash + figureOfGuest(guest, what);
            }
        }
        for (int day = 0; day < DAYS; day++) {
            for (int what = 0; what <= 4; what++) {
                hash = 31L * hash + figureOfDay(day, what);
            }
            for (int part = 0; part < PARTS; part++) {
                hash = 31L * hash + at(now.plan, cellOf(day, part));
                hash = 31L * hash + leftovers.sourceDay(now, cellOf(day, part));
                hash = 31L * hash + outlook.bestDish(day, part);
            }
        }
        hash = 31L * hash + bitsOfShare(usedShare());
        hash = 31L * hash + text.length;
        for (int index = 0; index < text.length; index++) {
            hash = 31L * hash + at(text.codes, index);
        }
        return hash;
    }

    private int figureOfAll(int what) {
        switch (what) {
            case 0: return now.dishCount;
            case 1: return now.guestCount;
            case 2: return now.planCount();
            case 3: return outlook.joyOfPlan();
            case 4: return now.planCost();
            case 5: return now.sourceCount();
            case 6: return leftovers.wastedOfAll(now);
            case 7: return now.wholeMeals();
            case 8:
            case 9:
            case 10:
            case 11: return now.weekCost(what - 8);
            case 12: return snapshots.takenCount();
            case 13: return history.size;
            default: return NONE;
        }
    }

    private int figureOfDish(int dish, int what) {
        switch (what) {
            case 0: return at(now.parts, dish);
            case 1: return at(now.costs, dish);
            case 2: return at(now.tastes, dish);
            case 3: return at(now.joys, dish);
            case 4: return at(now.left, dish);
            case 5: return at(now.leftDays, dish);
            case 6: return now.isLeftover(dish) ? 1 : 0;
            case 7: return now.timesPlanned(dish);
            case 8: return leftovers.wastedOf(now, dish);
            default: return NONE;
        }
    }

    private int figureOfGuest(int guest, int what) {
        switch (what) {
            case 0: return at(now.comes, guest);
            case 1: return at(now.vetoes, guest);
            case 2: return now.dishesBefore(guest);
            default: return NONE;
        }
    }

    private int figureOfDay(int day, int what) {
        switch (what) {
            case 0: return now.mealCount(day);
            case 1: return now.mealCost(day);
            case 2: return outlook.joyOfMeal(day);
            case 3: return now.vetoedTastes(day);
            case 4: return now.guestsOn(day);
            default: return NONE;
        }
    }

    /** The bits of a share of 0 to 1, made by hand: the library's way is not among what may be used. */
    private static long bitsOfShare(double share) {
        if (share <= 0.0) {
            return 0L;
        }
        double fraction = share;
        long exponent = 1023L;
        for (int step = 0; step < 60 && fraction < 1.0; step++) {
            fraction = fraction * 2.0;
            exponent--;
        }
        return (exponent << 52) | (long) ((fraction - 1.0) * 4503599627370496.0);
    }

    /** Changes are made in the trial first, so that a refused one leaves nothing behind. */
    private void takeOverTrial() {
        history.save(now);
        now.copyFrom(trial);
    }

    private boolean canStand(State state) {
        return !state.hasVetoedDish() && !state.isAboveBudget() && leftovers.areSound(state);
    }

    private boolean servesIfItCan(int day, int dish) {
        if (!now.hasDish(dish)) {
            return false;
        }
        int part = at(now.parts, dish);
        if (outlook.reasonAgainst(day, part, dish) != IT_CAN) {
            return false;
        }
        put(now.plan, cellOf(day, part), dish);
        return true;
    }

    private static int leastValue(int setting) {
        return setting == MEMORY ? 1 : 0;
    }

    private static int greatestValue(int setting) {
        if (setting == TIRING) {
            return 9;
        }
        return setting == MEMORY ? 10 : 999;
    }

    private static boolean isWithin(int value, int least, int greatest) {
        return value >= least && value <= greatest;
    }

    private static boolean isDay(int day) {
        return day >= 0 && day < DAYS;
    }

    private static boolean isPart(int part) {
        return part >= 0 && part < PARTS;
    }

    /** The cells go by ascending days, of a day by ascending parts: the order in which servings find sources. */
    private static int cellOf(int day, int part) {
        return day * PARTS + part;
    }

    /** All reading of rows goes through here, so that no index can make the machine throw. */
    private static int at(int[] row, int index) {
        return row != null && index >= 0 && index < row.length ? row[index] : NONE;
    }

    private static void put(int[] row, int index, int value) {
        if (row != null && index >= 0 && index < row.length) {
            row[index] = value;
        }
    }

    private static void copyRow(int[] from, int[] to) {
        if (from != null && to != null) {
            System.arraycopy(from, 0, to, 0, Math.min(from.length, to.length));
        }
    }

    /** All that undo brings back: the dishes, the guests, the settings and the plan. */
    private static final class State {
        int dishCount;
        final int[] parts;
        final int[] costs;
        final int[] tastes;
        final int[] joys;
        final int[] left;
        final int[] leftDays;
        int guestCount;
        final int[] comes;
        final int[] vetoes;
        final int[] settings;
        final int[] plan;

        State() {
            dishCount = 0;
            parts = new int[MOST_DISHES];
            costs = new int[MOST_DISHES];
            tastes = new int[MOST_DISHES];
            joys = new int[MOST_DISHES];
            left = new int[MOST_DISHES];
            leftDays = new int[MOST_DISHES];
            guestCount = 0;
            comes = new int[MOST_GUESTS];
            vetoes = new int[MOST_GUESTS];
            settings = new int[SETTINGS];
            plan = new int[CELLS];
            Arrays.fill(left, NONE);
            Arrays.fill(plan, NONE);
            put(settings, TIRING, 2);
            put(settings, MEMORY, 3);
            put(settings, BUDGET, 200);
        }

        void copyFrom(State other) {
            dishCount = other.dishCount;
            copyRow(other.parts, parts);
            copyRow(other.costs, costs);
            copyRow(other.tastes, tastes);
            copyRow(other.joys, joys);
            copyRow(other.left, left);
            copyRow(other.leftDays, leftDays);
            guestCount = other.guestCount;
            copyRow(other.comes, comes);
            copyRow(other.vetoes, vetoes);
            copyRow(other.settings, settings);
            copyRow(other.plan, plan);
        }

        int newDish(int part, int cost, int taste, int joy) {
            int dish = dishCount;
            put(parts, dish, part);
            put(costs, dish, cost);
            put(tastes, dish, taste);
            put(joys, dish, joy);
            put(left, dish, NONE);
            put(leftDays, dish, 0);
            dishCount++;
            return dish;
        }

        int newGuest() {
            int guest = guestCount;
            put(comes, guest, ALL_DAYS);
            put(vetoes, guest, 0);
            guestCount++;
            return guest;
        }

        boolean hasDish(int dish) {
            return dish >= 0 && dish < dishCount;
        }

        boolean hasGuest(int guest) {
            return guest >= 0 && guest < guestCount;
        }

        boolean isLeftover(int dish) {
            for (int other = 0; other < dishCount; other++) {
                if (at(left, other) == dish) {
                    return true;
                }
            }
            return false;
        }

        int timesPlanned(int dish) {
            int times = 0;
            for (int cell = 0; cell < CELLS; cell++) {
                if (at(plan, cell) == dish) {
                    times++;
                }
            }
            return times;
        }

        int planCount() {
            return CELLS - timesPlanned(NONE);
        }

        int planCost() {
            int cost = 0;
            for (int week = 0; week < WEEKS; week++) {
                cost += weekCost(week);
            }
            return cost;
        }

        int weekCost(int week) {
            int cost = 0;
            int first = week * DAYS_OF_WEEK;
            for (int day = first; day < first + DAYS_OF_WEEK; day++) {
                cost += mealCost(day);
            }
            return cost;
        }

        boolean isAboveBudget() {
            for (int week = 0; week < WEEKS; week++) {
                if (weekCost(week) > at(settings, BUDGET)) {
                    return true;
                }
            }
            return false;
        }

        int mealCount(int day) {
            int dishes = 0;
            for (int part = 0; part < PARTS; part++) {
                if (at(plan, cellOf(day, part)) != NONE) {
                    dishes++;
                }
            }
            return dishes;
        }

        int mealCost(int day) {
            int cost = 0;
            for (int part = 0; part < PARTS; part++) {
                int dish = at(plan, cellOf(day, part));
                if (dish != NONE) {
                    cost += at(costs, dish);
                }
            }
            return cost;
        }

        int wholeMeals() {
            int whole = 0;
            for (int day = 0; day < DAYS; day++) {
                if (mealCount(day) == PARTS) {
                    whole++;
                }
            }
            return whole;
        }

        int sourceCount() {
            int sources = 0;
            for (int cell = 0; cell < CELLS; cell++) {
                if (at(left, at(plan, cell)) != NONE) {
                    sources++;
                }
            }
            return sources;
        }

        boolean comesOn(int guest, int day) {
            return (at(comes, guest) >> (day % DAYS_OF_WEEK) & 1) == 1;
        }

        int guestsOn(int day) {
            int guests = 0;
            for (int guest = 0; guest < guestCount; guest++) {
                if (comesOn(guest, day)) {
                    guests++;
                }
            }
            return guests;
        }

        int dishesBefore(int guest) {
            int dishes = 0;
            for (int day = 0; day < DAYS; day++) {
                if (comesOn(guest, day)) {
                    dishes += mealCount(day);
                }
            }
            return dishes;
        }

        int vetoedTastes(int day) {
            int mask = 0;
            for (int guest = 0; guest < guestCount; guest++) {
                if (comesOn(guest, day)) {
                    mask |= at(vetoes, guest);
                }
            }
            return mask;
        }

        boolean isVetoed(int day, int dish) {
            return (vetoedTastes(day) >> at(tastes, dish) & 1) == 1;
        }

        boolean hasVetoedDish() {
            for (int cell = 0; cell < CELLS; cell++) {
                int dish = at(plan, cell);
                if (dish != NONE && isVetoed(cell / PARTS, dish)) {
                    return true;
                }
            }
            return false;
        }

        /** Whether a dish stands in the plan that there is not, or that belongs to another part. */
        boolean hasStrangeDish() {
            for (int cell = 0; cell < CELLS; cell++) {
                int dish = at(plan, cell);
                if (dish != NONE && (!hasDish(dish) || at(parts, dish) != cell % PARTS)) {
                    return true;
                }
            }
            return false;
        }

        void exchangeMeals(int day, int other) {
            for (int part = 0; part < PARTS; part++) {
                int dish = at(plan, cellOf(day, part));
                put(plan, cellOf(day, part), at(plan, cellOf(other, part)));
                put(plan, cellOf(other, part), dish);
            }
        }
    }

    /** Finds a source for each serving of a leftover; its rows hold what the latest search found. */
    private static final class Leftovers {
        private final int[] sourceCells;
        private final int[] found;

        Leftovers() {
            sourceCells = new int[CELLS];
            found = new int[CELLS];
        }

        boolean areSound(State state) {
            return pairAll(state);
        }

        /**
         * Whether a sound plan stays so with one more dish in an empty cell: only the servings
         * of the dish itself can come to lack a source, for one more source takes none away.
         */
        boolean staySoundWith(State state, int cell, int dish) {
            if (!state.isLeftover(dish)) {
                return true;
            }
            forget();
            put(state.plan, cell, dish);
            boolean sound = pairServings(state, dish);
            put(state.plan, cell, NONE);
            return sound;
        }

        int sourceDay(State state, int cell) {
            int dish = at(state.plan, cell);
            forget();
            if (dish != NONE && state.isLeftover(dish)) {
                pairServings(state, dish);
            }
            int source = at(sourceCells, cell);
            return source == NONE ? NONE : source / PARTS;
        }

        int wastedOf(State state, int dish) {
            pairAll(state);
            return wastedServings(state, dish);
        }

        int wastedOfAll(State state) {
            pairAll(state);
            int wasted = 0;
            for (int dish = 0; dish < state.dishCount; dish++) {
                wasted += wastedServings(state, dish);
            }
            return wasted;
        }

        private int wastedServings(State state, int dish) {
            if (at(state.left, dish) == NONE) {
                return 0;
            }
            int wasted = 0;
            for (int cell = 0; cell < CELLS; cell++) {
                if (at(state.plan, cell) == dish && at(found, cell) == 0) {
                    wasted++;
                }
            }
            return wasted;
        }

        private void forget() {
            Arrays.fill(sourceCells, NONE);
            Arrays.fill(found, 0);
        }

        private boolean pairAll(State state) {
            forget();
            boolean sound = true;
            for (int dish = 0; dish < state.dishCount; dish++) {
                if (state.isLeftover(dish) && !pairServings(state, dish)) {
                    sound = false;
                }
            }
            return sound;
        }

        /** A leftover's servings alone: no other one's sources are its, so the leftovers can go one by one. */
        private boolean pairServings(State state, int dish) {
            int part = at(state.parts, dish);
            boolean sound = true;
            for (int day = 0; day < DAYS; day++) {
                int cell = cellOf(day, part);
                if (at(state.plan, cell) == dish) {
                    int source = nextSource(state, dish, day);
                    put(sourceCells, cell, source);
                    put(found, source, 1);
                    sound = sound && source != NONE;
                }
            }
            return sound;
        }

        private int nextSource(State state, int dish, int day) {
            int chosen = NONE;
            int chosenEnd = 0;
            int first = cellOf(Math.max(0, day - MOST_LEFT_DAYS), 0);
            int end = cellOf(day, 0);
            for (int cell = first; cell < end; cell++) {
                int giver = at(state.plan, cell);
                if (at(state.left, giver) == dish && at(found, cell) == 0) {
                    int lastDay = cell / PARTS + at(state.leftDays, giver);
                    // Of equal ends the first cell stays: the earliest day, of it the lowest part.
                    if (lastDay >= day && (chosen == NONE || lastDay < chosenEnd)) {
                        chosen = cell;
                        chosenEnd = lastDay;
                    }
                }
            }
            return chosen;
        }
    }

    /** What joy there is, and what would be. */
    private static final class Outlook {
        private final State state;
        private final Leftovers leftovers;

        Outlook(State state, Leftovers leftovers) {
            this.state = state;
            this.leftovers = leftovers;
        }

        int reasonAgainst(int day, int part, int dish) {
            int cell = cellOf(day, part);
            if (at(state.plan, cell) != NONE) {
                return PART_IS_TAKEN;
            }
            if (at(state.parts, dish) != part) {
                return OTHER_PART;
            }
            if (state.isVetoed(day, dish)) {
                return VETOED;
            }
            if (state.weekCost(day / DAYS_OF_WEEK) + at(state.costs, dish) > at(state.settings, BUDGET)) {
                return TOO_DEAR;
            }
            return leftovers.staySoundWith(state, cell, dish) ? IT_CAN : UNSOUND;
        }

        int joyOfDish(int day, int dish) {
            return joyLeft(dish, sameTasteBefore(day, dish));
        }

        private int joyLeft(int dish, int sameTaste) {
            return Math.max(0, at(state.joys, dish) - at(state.settings, TIRING) * sameTaste);
        }

        private int sameTasteBefore(int day, int dish) {
            int taste = at(state.tastes, dish);
            int first = cellOf(Math.max(0, day - at(state.settings, MEMORY)), 0);
            int end = cellOf(day, 0);
            int same = 0;
            for (int cell = first; cell < end; cell++) {
                int other = at(state.plan, cell);
                if (other != NONE && at(state.tastes, other) == taste) {
                    same++;
                }
            }
            return same;
        }

        int joyOfMeal(int day) {
            int joy = 0;
            for (int part = 0; part < PARTS; part++) {
                int dish = at(state.plan, cellOf(day, part));
                if (dish != NONE) {
                    joy += joyOfDish(day, dish);
                }
            }
            return joy;
        }

        int joyOfPlan() {
            int joy = 0;
            for (int day = 0; day < DAYS; day++) {
                joy += joyOfMeal(day);
            }
            return joy;
        }

        int bestDish(int day, int part) {
            int best = NONE;
            for (int dish = 0; dish < state.dishCount; dish++) {
                if (reasonAgainst(day, part, dish) == IT_CAN
                        && (best == NONE || isBetter(day, dish, best))) {
                    best = dish;
                }
            }
            return best;
        }

        private boolean isBetter(int day, int dish, int best) {
            int more = joyOfDish(day, dish) - joyOfDish(day, best);
            return more > 0 || more == 0 && at(state.costs, dish) < at(state.costs, best);
        }

        /** By how much the joy of the plan grows with a dish that can be put there. */
        int growth(int day, int dish) {
            int more = joyOfDish(day, dish);
            int taste = at(state.tastes, dish);
            int first = cellOf(day + 1, 0);
            int end = cellOf(Math.min(DAYS, day + at(state.settings, MEMORY) + 1), 0);
            for (int cell = first; cell < end; cell++) {
                int other = at(state.plan, cell);
                if (other != NONE && at(state.tastes, other) == taste) {
                    int same = sameTasteBefore(cell / PARTS, other);
                    more += joyLeft(other, same + 1) - joyLeft(other, same);
                }
            }
            return more;
        }

        int bestDayOf(int dish) {
            int part = at(state.parts, dish);
            int best = NONE;
            int most = 0;
            for (int day = 0; day < DAYS; day++) {
                if (reasonAgainst(day, part, dish) == IT_CAN) {
                    int more = growth(day, dish);
                    if (best == NONE || more > most) {
                        best = day;
                        most = more;
                    }
                }
            }
            return best;
        }
    }

    /** The saved states, the oldest one first. */
    private static final class History {
        private final State[] saved;
        private int oldest;
        int size;

        History() {
            saved = new State[MOST_SAVED];
            for (int index = 0; index < MOST_SAVED; index++) {
                saved[index] = new State();
            }
            oldest = 0;
            size = 0;
        }

        void save(State state) {
            if (size == MOST_SAVED) {
                oldest = (oldest + 1) % MOST_SAVED;
                size--;
            }
            State place = placeOf(size);
            if (place != null) {
                place.copyFrom(state);
                size++;
            }
        }

        void bringBack(State state) {
            State place = placeOf(size - 1);
            if (place != null) {
                state.copyFrom(place);
                size--;
            }
        }

        private State placeOf(int rank) {
            int index = (oldest + rank) % MOST_SAVED;
            return index >= 0 && index < saved.length ? saved[index] : null;
        }
    }

    /** The plans that are kept under a number. */
    private static final class Snapshots {
        private final int[] plans;
        private final boolean[] taken;

        Snapshots() {
            plans = new int[SNAPSHOTS * CELLS];
            taken = new boolean[SNAPSHOTS];
        }

        void keep(int number, int[] plan) {
            for (int cell = 0; cell < CELLS; cell++) {
                put(plans, number * CELLS + cell, at(plan, cell));
            }
            if (number >= 0 && number < taken.length) {
                taken[number] = true;
            }
        }

        void copyTo(int number, int[] plan) {
            for (int cell = 0; cell < CELLS; cell++) {
                put(plan, cell, at(plans, number * CELLS + cell));
            }
        }

        boolean isTaken(int number) {
            return number >= 0 && number < taken.length && taken[number];
        }

        int takenCount() {
            int count = 0;
            for (int number = 0; number < SNAPSHOTS; number++) {
                if (isTaken(number)) {
                    count++;
                }
            }
            return count;
        }
    }

    /** The buffer, and the grammar of a plan as a text. */
    private static final class PlanText {
        private static final int WRONG = -1;
        private static final int AT_ENTRY = 0;
        private static final int AT_DAY = 1;
        private static final int AFTER_ONE = 2;
        private static final int AFTER_TWO = 3;
        private static final int AFTER_DAY = 4;
        private static final int AT_DISH = 5;
        private static final int AFTER_DISH = 6;

        final int[] codes;
        int length;

        PlanText() {
            codes = new int[MOST_CODES];
            length = 0;
        }

        void addCode(int code) {
            put(codes, length, code);
            length++;
        }

        void makeEmpty() {
            length = 0;
        }

        int errorIndex() {
            int place = AT_ENTRY;
            for (int index = 0; index < length; index++) {
                place = placeAfter(place, at(codes, index));
                if (place == WRONG) {
                    return index;
                }
            }
            return length;
        }

        /** Without errors, a "=" stands last but one only where a dish has ended the last entry. */
        boolean isComplete() {
            return errorIndex() == length && at(codes, length - 2) == '=';
        }

        private static int placeAfter(int place, int code) {
            switch (place) {
                case AT_ENTRY: return code == 'd' ? AT_DAY : WRONG;
                case AT_DAY: return placeAfterFirstDigit(code);
                case AFTER_ONE: return isWithin(code, '0', '9') ? AFTER_DAY : placeAfterDay(code);
                case AFTER_TWO: return isWithin(code, '0', '7') ? AFTER_DAY : placeAfterDay(code);
                case AFTER_DAY: return placeAfterDay(code);
                case AT_DISH: return isWithin(code, 'a', 'l') ? AFTER_DISH : WRONG;
                case AFTER_DISH: return code == ';' ? AT_ENTRY : WRONG;
                default: return WRONG;
            }
        }

        private static int placeAfterFirstDigit(int code) {
            if (code == '1') {
                return AFTER_ONE;
            }
            if (code == '2') {
                return AFTER_TWO;
            }
            return isWithin(code, '0', '9') ? AFTER_DAY : WRONG;
        }

        private static int placeAfterDay(int code) {
            return code == '=' ? AT_DISH : WRONG;
        }

        int entryCount() {
            int entries = 1;
            for (int index = 0; index < length; index++) {
                if (at(codes, index) == ';') {
                    entries++;
                }
            }
            return entries;
        }

        int startOf(int entry) {
            int start = 0;
            int passed = 0;
            for (int index = 0; index < length && passed < entry; index++) {
                if (at(codes, index) == ';') {
                    passed++;
                    start = index + 1;
                }
            }
            return start;
        }

        int dayFrom(int start) {
            int day = 0;
            for (int index = start + 1; index < length && at(codes, index) != '='; index++) {
                day = day * 10 + at(codes, index) - '0';
            }
            return day;
        }

        int dishFrom(int start) {
            for (int index = start; index < length; index++) {
                if (at(codes, index) == '=') {
                    return at(codes, index + 1) - 'a';
                }
            }
            return NONE;
        }
    }
}
