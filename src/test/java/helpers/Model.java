import java.util.ArrayDeque;
import java.util.ArrayList;
import java.util.Comparator;
import java.util.Deque;
import java.util.List;
import java.util.TreeMap;
import java.util.regex.Matcher;
import java.util.regex.Pattern;

/**
 * The document once more, written for nothing but to be compared with: it counts
 * everything anew at each call, copies whole states, and shares no code with the class.
 */
final class Model {
    static final int NONE = -1;

    private static final class Dish {
        final int part;
        final int cost;
        final int taste;
        final int joy;
        int leaves = NONE;
        int days = 0;

        Dish(int part, int cost, int taste, int joy) {
            this.part = part;
            this.cost = cost;
            this.taste = taste;
            this.joy = joy;
        }
    }

    private static final class Source {
        final int day;
        final int part;
        final int last;
        final int from;
        final int gives;
        boolean found = false;

        Source(int day, int part, int from, Dish dish) {
            this.day = day;
            this.part = part;
            this.from = from;
            this.last = day + dish.days;
            this.gives = dish.leaves;
        }
    }

    private static final class State {
        final List<Dish> dishes = new ArrayList<>();
        final List<int[]> guests = new ArrayList<>();
        final int[] settings = {2, 3, 200};
        TreeMap<Integer, Integer> plan = new TreeMap<>();

        State copy() {
            State copy = new State();
            for (Dish d : dishes) {
                Dish e = new Dish(d.part, d.cost, d.taste, d.joy);
                e.leaves = d.leaves;
                e.days = d.days;
                copy.dishes.add(e);
            }
            for (int[] g : guests) {
                copy.guests.add(g.clone());
            }
            System.arraycopy(settings, 0, copy.settings, 0, 3);
            copy.plan = new TreeMap<>(plan);
            return copy;
        }
    }

    private State s = new State();
    private final Deque<State> saved = new ArrayDeque<>();
    private final List<TreeMap<Integer, Integer>> snapshots = new ArrayList<>(List.of(new TreeMap<>(), new TreeMap<>()));
    private final boolean[] taken = new boolean[2];
    private final StringBuilder buffer = new StringBuilder();

    private static final String ENTRY = "d(?:[0-9]|1[0-9]|2[0-7])=[a-l]";
    private static final Pattern PLAN = Pattern.compile(ENTRY + "(?:;" + ENTRY + ")*");

    private void index(boolean good) {
        if (!good) {
            throw new IndexOutOfBoundsException();
        }
    }

    private void argument(boolean good) {
        if (!good) {
            throw new IllegalArgumentException();
        }
    }

    private void state(boolean good) {
        if (!good) {
            throw new IllegalStateException();
        }
    }

    private boolean in(int value, int least, int most) {
        return least <= value && value <= most;
    }

    private void save(State before) {
        saved.addLast(before);
        if (saved.size() > 6) {
            saved.removeFirst();
        }
    }

    private int key(int day, int part) {
        return day * 10 + part;
    }

    private List<Source> sources(State t) {
        List<Source> list = new ArrayList<>();
        t.plan.forEach((k, d) -> {
            Dish dish = t.dishes.get(d);
            if (dish.leaves != NONE) {
                list.add(new Source(k / 10, k % 10, d, dish));
            }
        });
        return list;
    }

    private boolean leftover(State t, int dish) {
        return t.dishes.stream().anyMatch(d -> d.leaves == dish);
    }

    /** By the key of each serving of a leftover the source that it finds, null if it finds none. */
    private TreeMap<Integer, Source> pairs(State t, List<Source> sources) {
        TreeMap<Integer, Source> pairs = new TreeMap<>();
        t.plan.forEach((k, d) -> {
            if (leftover(t, d)) {
                int day = k / 10;
                Source s = sources.stream()
                        .filter(x -> x.gives == d && !x.found && x.day < day && day <= x.last)
                        .min(Comparator.<Source>comparingInt(x -> x.last).thenComparingInt(x -> x.day).thenComparingInt(x -> x.part))
                        .orElse(null);
                if (s != null) {
                    s.found = true;
                }
                pairs.put(k, s);
            }
        });
        return pairs;
    }

    private boolean sound(State t) {
        return !pairs(t, sources(t)).containsValue(null);
    }

    private boolean vetoed(State t, int day, int dish) {
        return t.guests.stream().anyMatch(g -> (g[0] & 1 << day % 7) != 0 && (g[1] & 1 << t.dishes.get(dish).taste) != 0);
    }

    private boolean anyVetoed(State t) {
        return t.plan.entrySet().stream().anyMatch(e -> vetoed(t, e.getKey() / 10, e.getValue()));
    }

    private int weekCost(State t, int week) {
        return t.plan.entrySet().stream().filter(e -> e.getKey() / 70 == week).mapToInt(e -> t.dishes.get(e.getValue()).cost).sum();
    }

    private boolean above(State t) {
        return (weekCost(t, 0) > t.settings[2] || weekCost(t, 1) > t.settings[2]
                || weekCost(t, 2) > t.settings[2] || weekCost(t, 3) > t.settings[2]);
    }

    private int joy(State t, int day, int dish) {
        int taste = t.dishes.get(dish).taste;
        long same = t.plan.entrySet().stream().filter(e -> {
            int d = e.getKey() / 10;
            return d < day && d >= day - t.settings[1] && t.dishes.get(e.getValue()).taste == taste;
        }).count();
        return Math.max(0, t.dishes.get(dish).joy - t.settings[0] * (int) same);
    }

    private int joyAll(State t) {
        return t.plan.entrySet().stream().mapToInt(e -> joy(t, e.getKey() / 10, e.getValue())).sum();
    }

    int addDish(int part, int cost, int taste, int joy) {
        argument(in(part, 0, 2) && in(cost, 0, 30) && in(taste, 0, 5) && in(joy, 1, 9));
        state(s.dishes.size() < 12);
        save(s.copy());
        s.dishes.add(new Dish(part, cost, taste, joy));
        return s.dishes.size() - 1;
    }

    private boolean isDish(int dish) {
        return in(dish, 0, s.dishes.size() - 1);
    }

    private void change(State t) {
        save(s);
        s = t;
    }

    int leave(int dish, int other, int days) {
        index(isDish(dish) && (other == NONE || isDish(other)));
        argument(dish != other && (other == NONE || in(days, 1, 6)));
        State t = s.copy();
        t.dishes.get(dish).leaves = other;
        t.dishes.get(dish).days = other == NONE ? 0 : days;
        state(sound(t));
        int before = s.dishes.get(dish).leaves;
        change(t);
        return before;
    }

    int addGuest() {
        state(s.guests.size() < 6);
        save(s.copy());
        s.guests.add(new int[] {127, 0});
        return s.guests.size() - 1;
    }

    private int guestChange(int guest, int what, int value, int most) {
        index(in(guest, 0, s.guests.size() - 1));
        argument(in(value, 0, most));
        State t = s.copy();
        t.guests.get(guest)[what] = value;
        state(!anyVetoed(t));
        int before = s.guests.get(guest)[what];
        change(t);
        return before;
    }

    int come(int guest, int days) {
        return guestChange(guest, 0, days, 127);
    }

    int veto(int guest, int tastes) {
        return guestChange(guest, 1, tastes, 63);
    }

    int set(int setting, int value) {
        index(in(setting, 0, 2));
        argument(setting == 0 ? in(value, 0, 9) : setting == 1 ? in(value, 1, 10) : in(value, 0, 999));
        State t = s.copy();
        t.settings[setting] = value;
        state(!above(t));
        int before = s.settings[setting];
        change(t);
        return before;
    }

    int serve(int day, int dish) {
        index(in(day, 0, 27) && isDish(dish));
        int part = s.dishes.get(dish).part;
        state(whyNot(day, part, dish) == 0);
        save(s.copy());
        s.plan.put(key(day, part), dish);
        return joy(s, day, dish);
    }

    int drop(int day, int part) {
        index(in(day, 0, 27) && in(part, 0, 2));
        state(s.plan.containsKey(key(day, part)));
        State t = s.copy();
        int dish = t.plan.remove(key(day, part));
        state(sound(t));
        change(t);
        return dish;
    }

    int exchange(int day, int other) {
        index(in(day, 0, 27) && in(other, 0, 27));
        State t = s.copy();
        t.plan.clear();
        s.plan.forEach((k, d) -> {
            int on = k / 10;
            t.plan.put(key(on == day ? other : on == other ? day : on, k % 10), d);
        });
        state(!anyVetoed(t) && !above(t) && sound(t));
        change(t);
        return joyAll(s);
    }

    int fill(int day) {
        index(in(day, 0, 27));
        save(s.copy());
        int put = 0;
        for (int part = 0; part < 3; part++) {
            if (!s.plan.containsKey(key(day, part)) && best(day, part) != NONE) {
                s.plan.put(key(day, part), best(day, part));
                put++;
            }
        }
        return put;
    }

    int clear() {
        int size = s.plan.size();
        save(s.copy());
        s.plan.clear();
        return size;
    }

    int append(int code) {
        argument(in(code, 33, 126));
        state(buffer.length() < 60);
        return buffer.append((char) code).length();
    }

    int clearBuffer() {
        int length = buffer.length();
        buffer.setLength(0);
        return length;
    }

    int firstError() {
        for (int k = 0; k < buffer.length(); k++) {
            Matcher m = PLAN.matcher(buffer.substring(0, k + 1));
            if (!m.matches() && !m.hitEnd()) {
                return k;
            }
        }
        return buffer.length();
    }

    int read() {
        argument(PLAN.matcher(buffer).matches());
        save(s.copy());
        int put = 0;
        for (String entry : buffer.toString().split(";")) {
            int day = Integer.parseInt(entry.substring(1, entry.indexOf('=')));
            int dish = entry.charAt(entry.length() - 1) - 'a';
            if (!isDish(dish) || whyNot(day, s.dishes.get(dish).part, dish) != 0) {
                break;
            }
            s.plan.put(key(day, s.dishes.get(dish).part), dish);
            put++;
        }
        buffer.setLength(0);
        return put;
    }

    int take(int snapshot) {
        index(in(snapshot, 0, 1));
        taken[snapshot] = true;
        snapshots.set(snapshot, new TreeMap<>(s.plan));
        return s.plan.size();
    }

    int restore(int snapshot) {
        index(in(snapshot, 0, 1));
        state(taken[snapshot]);
        State t = s.copy();
        t.plan = new TreeMap<>(snapshots.get(snapshot));
        t.plan.forEach((k, d) -> state(isDish(d) && t.dishes.get(d).part == k % 10));
        state(!anyVetoed(t) && !above(t) && sound(t));
        change(t);
        return s.plan.size();
    }

    int undo() {
        state(!saved.isEmpty());
        s = saved.removeLast();
        return saved.size();
    }

    int planned(int day, int part) {
        index(in(day, 0, 27) && in(part, 0, 2));
        return s.plan.getOrDefault(key(day, part), NONE);
    }

    private int wasted(int dish) {
        List<Source> list = sources(s);
        pairs(s, list);
        return (int) list.stream().filter(x -> !x.found && (dish == NONE || x.from == dish)).count();
    }

    int dish(int dish, int what) {
        index(isDish(dish));
        argument(in(what, 0, 8));
        Dish d = s.dishes.get(dish);
        int times = (int) s.plan.values().stream().filter(x -> x == dish).count();
        int[] all = {d.part, d.cost, d.taste, d.joy, d.leaves, d.days, leftover(s, dish) ? 1 : 0, times, wasted(dish)};
        return all[what];
    }

    int guest(int guest, int what) {
        index(in(guest, 0, s.guests.size() - 1));
        argument(in(what, 0, 2));
        int[] g = s.guests.get(guest);
        int there = (int) s.plan.keySet().stream().filter(k -> (g[0] & 1 << k / 10 % 7) != 0).count();
        return what == 2 ? there : g[what];
    }

    int day(int day, int what) {
        index(in(day, 0, 27));
        argument(in(what, 0, 4));
        int dishes = 0;
        int cost = 0;
        int joy = 0;
        for (int k : s.plan.keySet()) {
            if (k / 10 == day) {
                dishes++;
                cost += s.dishes.get(s.plan.get(k)).cost;
                joy += joy(s, day, s.plan.get(k));
            }
        }
        int tastes = 0;
        int there = 0;
        for (int[] g : s.guests) {
            if ((g[0] & 1 << day % 7) != 0) {
                tastes |= g[1];
                there++;
            }
        }
        return new int[] {dishes, cost, joy, tastes, there}[what];
    }

    int source(int day, int part) {
        index(in(day, 0, 27) && in(part, 0, 2));
        Source found = pairs(s, sources(s)).get(key(day, part));
        return found == null ? NONE : found.day;
    }

    int count(int what) {
        argument(in(what, 0, 13));
        switch (what) {
            case 0: return s.dishes.size();
            case 1: return s.guests.size();
            case 2: return s.plan.size();
            case 3: return joyAll(s);
            case 4: return s.plan.values().stream().mapToInt(d -> s.dishes.get(d).cost).sum();
            case 5: return sources(s).size();
            case 6: return wasted(NONE);
            case 7: return (int) s.plan.keySet().stream().filter(k -> k % 10 == 0 && s.plan.containsKey(k + 1) && s.plan.containsKey(k + 2)).count();
            case 12: return (taken[0] ? 1 : 0) + (taken[1] ? 1 : 0);
            case 13: return saved.size();
            default: return weekCost(s, what - 8);
        }
    }

    int setting(int setting) {
        index(in(setting, 0, 2));
        return s.settings[setting];
    }

    int whyNot(int day, int part, int dish) {
        index(in(day, 0, 27) && in(part, 0, 2) && isDish(dish));
        State t = s.copy();
        Integer before = t.plan.put(key(day, part), dish);
        return before != null ? 1 : s.dishes.get(dish).part != part ? 2 : vetoed(s, day, dish) ? 3 : above(t) ? 4 : !sound(t) ? 5 : 0;
    }

    int joyOn(int day, int dish) {
        index(in(day, 0, 27) && isDish(dish));
        return joy(s, day, dish);
    }

    int best(int day, int part) {
        index(in(day, 0, 27) && in(part, 0, 2));
        int best = NONE;
        for (int d = 0; d < s.dishes.size(); d++) {
            if (whyNot(day, part, d) == 0) {
                int order = best == NONE ? 1 : Integer.compare(joy(s, day, d), joy(s, day, best));
                if (order == 0) {
                    order = Integer.compare(s.dishes.get(best).cost, s.dishes.get(d).cost);
                }
                best = order > 0 ? d : best;
            }
        }
        return best;
    }

    int gain(int day, int dish) {
        index(in(day, 0, 27) && isDish(dish));
        int part = s.dishes.get(dish).part;
        if (whyNot(day, part, dish) != 0) {
            return 0;
        }
        State t = s.copy();
        t.plan.put(key(day, part), dish);
        return joyAll(t) - joyAll(s);
    }

    int bestDay(int dish) {
        index(isDish(dish));
        int best = NONE;
        for (int day = 0; day < 28; day++) {
            if (whyNot(day, s.dishes.get(dish).part, dish) == 0 && (best == NONE || gain(day, dish) > gain(best, dish))) {
                best = day;
            }
        }
        return best;
    }

    double usedShare() {
        int all = count(5);
        return all == 0 ? 1.0 : (double) (all - count(6)) / all;
    }

    long digest() {
        List<Long> values = new ArrayList<>();
        for (int k = 0; k <= 13; k++) {
            values.add((long) count(k));
        }
        for (int k = 0; k < 3; k++) {
            values.add((long) setting(k));
        }
        for (int d = 0; d < s.dishes.size(); d++) {
            for (int k = 0; k <= 8; k++) {
                values.add((long) dish(d, k));
            }
            values.add((long) bestDay(d));
        }
        for (int g = 0; g < s.guests.size(); g++) {
            for (int k = 0; k <= 2; k++) {
                values.add((long) guest(g, k));
            }
        }
        for (int day = 0; day < 28; day++) {
            for (int k = 0; k <= 4; k++) {
                values.add((long) day(day, k));
            }
            for (int part = 0; part < 3; part++) {
                values.add((long) planned(day, part));
                values.add((long) source(day, part));
                values.add((long) best(day, part));
            }
        }
        values.add(Double.doubleToLongBits(usedShare()));
        values.add((long) buffer.length());
        buffer.chars().forEach(c -> values.add((long) c));
        long hash = 2531;
        for (long v : values) {
            hash = 31 * hash + v;
        }
        return hash;
    }
}
