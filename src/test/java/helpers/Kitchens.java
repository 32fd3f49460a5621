/** Objects that tests begin with. */
final class Kitchens {
    static final int[] NO_DAYS = {-1, 28, Integer.MIN_VALUE, Integer.MAX_VALUE};
    static final int[] NO_PARTS = {-1, 3, Integer.MIN_VALUE, Integer.MAX_VALUE};
    static final int[] NO_SNAPSHOTS = {-1, 2, Integer.MIN_VALUE, Integer.MAX_VALUE};

    private Kitchens() {
    }

    static FatigueMenus empty() {
        return new FatigueMenus();
    }

    /** Codes of characters as they stand in a text. */
    static FatigueMenus write(FatigueMenus x, String text) {
        for (int k = 0; k < text.length(); k++) {
            x.append(text.charAt(k));
        }
        return x;
    }

    /** 0 roast (main, 12, taste 0, joy 9), which leaves 1 hash (main, 3, 0, 4) for two days; 2 soup (first, 5, 1, 6); 3 cake (sweet, 4, 2, 7). */
    static FatigueMenus roast() {
        FatigueMenus x = new FatigueMenus();
        x.addDish(1, 12, 0, 9);
        x.addDish(1, 3, 0, 4);
        x.addDish(0, 5, 1, 6);
        x.addDish(2, 4, 2, 7);
        x.leave(0, 1, 2);
        return x;
    }

    /** Of each taste 0 to 3 a dish of each part: 3 * taste + part, of cost 1 and joy 9. */
    static FatigueMenus twelve() {
        FatigueMenus x = new FatigueMenus();
        for (int k = 0; k < 12; k++) {
            x.addDish(k % 3, 1, k / 3, 9);
        }
        return x;
    }

    /** Six guests, and the roast's dishes. */
    static FatigueMenus withGuests() {
        FatigueMenus x = roast();
        for (int k = 0; k < 6; k++) {
            x.addGuest();
        }
        return x;
    }

    /** Something of all that there is: both snapshots, a text, six saved states, a source found and one wasted. */
    static FatigueMenus busy() {
        FatigueMenus x = roast();
        x.addDish(0, 2, 3, 3);
        x.addGuest();
        x.addGuest();
        x.come(1, 96);
        x.veto(1, 8);
        x.set(0, 3);
        x.set(1, 4);
        x.set(2, 60);
        x.serve(0, 0);
        x.serve(0, 2);
        x.take(0);
        x.serve(1, 1);
        x.serve(3, 0);
        x.serve(8, 3);
        x.take(1);
        x.drop(8, 2);
        x.serve(27, 3);
        x.fill(7);
        return write(x, "d9=c;d2");
    }

    /** A dish of each part on each of the 28 days, 84 in all: 0, 1 and 2. */
    static FatigueMenus full() {
        FatigueMenus x = new FatigueMenus();
        for (int part = 0; part < 3; part++) {
            x.addDish(part, 1, part, 9);
        }
        for (int day = 0; day < 28; day++) {
            x.fill(day);
        }
        return x;
    }

    /** As many undoable calls as told. */
    static FatigueMenus saved(int calls) {
        FatigueMenus x = new FatigueMenus();
        for (int k = 0; k < calls; k++) {
            x.addDish(k % 3, k, 0, 1);
        }
        return x;
    }
}
