/** Long runs of calls, the same ones each time: the class and the model must give the same answers. */
public final class ModelRuns {
    private static final int RUNS = 120;
    private static final int CALLS = 512;

    private static long seed;

    private FatigueMenus menus;
    private Model model;
    private int run;
    private int step;

    private static int next(int bound) {
        seed = seed * 6364136223846793005L + 1442695040888963407L;
        return (int) ((seed >>> 33) % bound);
    }

    /** Mostly a number from 0 to bound - 1, now and then one beside it. */
    private static int near(int bound) {
        int odd = next(40);
        if (odd == 0) {
            return bound + next(3);
        }
        if (odd == 1) {
            return -1 - next(2);
        }
        if (odd == 2 && next(4) == 0) {
            return next(2) == 0 ? Integer.MIN_VALUE : Integer.MAX_VALUE;
        }
        return next(bound);
    }

    private int anyDay() {
        return run % 3 == 0 ? near(28) : near(run % 3 == 1 ? 10 : 5);
    }

    private int anyDish() {
        int count = menus.count(0);
        return near(Math.max(1, count));
    }

    private void same(String call, Check.Call due, Check.Call got) {
        Check.tell("run " + run + " step " + step + ": " + call, Check.answerOf(due), Check.answerOf(got));
    }

    private void arrange() {
        int a;
        int b;
        int c;
        int d;
        switch (next(7)) {
            case 0:
                a = near(3);
                b = near(31);
                c = run % 2 == 0 ? near(6) : near(2);
                d = near(9) + 1;
                same("addDish(" + a + ", " + b + ", " + c + ", " + d + ")", () -> model.addDish(a, b, c, d), () -> menus.addDish(a, b, c, d));
                break;
            case 1:
            case 2:
                a = anyDish();
                b = next(5) == 0 ? -1 : anyDish();
                c = near(6) + 1;
                same("leave(" + a + ", " + b + ", " + c + ")", () -> model.leave(a, b, c), () -> menus.leave(a, b, c));
                break;
            case 3:
                if (next(3) == 0) {
                    same("addGuest()", () -> model.addGuest(), () -> menus.addGuest());
                }
                break;
            case 4:
                a = near(Math.max(1, menus.count(1)));
                b = near(128);
                same("come(" + a + ", " + b + ")", () -> model.come(a, b), () -> menus.come(a, b));
                break;
            case 5:
                a = near(Math.max(1, menus.count(1)));
                b = next(3) == 0 ? near(64) : 1 << next(6);
                same("veto(" + a + ", " + b + ")", () -> model.veto(a, b), () -> menus.veto(a, b));
                break;
            default:
                a = near(3);
                b = a == 2 ? (next(3) == 0 ? near(1000) : 60 + next(200)) : near(11);
                same("set(" + a + ", " + b + ")", () -> model.set(a, b), () -> menus.set(a, b));
                break;
        }
    }

    private void plan() {
        int a = anyDay();
        int b;
        switch (next(13)) {
            case 0:
            case 1:
            case 2:
                b = near(3);
                same("drop(" + a + ", " + b + ")", () -> model.drop(a, b), () -> menus.drop(a, b));
                break;
            case 3:
            case 4:
                b = anyDay();
                same("exchange(" + a + ", " + b + ")", () -> model.exchange(a, b), () -> menus.exchange(a, b));
                break;
            case 5:
                same("fill(" + a + ")", () -> model.fill(a), () -> menus.fill(a));
                break;
            case 6:
                if (next(10) == 0) {
                    same("clear()", () -> model.clear(), () -> menus.clear());
                }
                break;
            default:
                b = anyDish();
                same("serve(" + a + ", " + b + ")", () -> model.serve(a, b), () -> menus.serve(a, b));
                break;
        }
    }

    private void write(int code) {
        same("append(" + code + ")", () -> model.append(code), () -> menus.append(code));
    }

    private void writeEntry() {
        String text = (next(4) == 0 ? "" : ";") + "d" + next(30) + "=" + (char) ('a' + (next(8) == 0 ? next(14) : next(Math.max(1, menus.count(0)))));
        for (int k = 0; k < text.length(); k++) {
            if (next(40) != 0) {
                write(text.charAt(k));
            }
        }
    }

    private void writeAndSave() {
        int a = next(6) == 0 ? near(2) : next(2);
        switch (next(12)) {
            case 0:
                write(next(3) == 0 ? near(130) : "d0123456789=abl;m".charAt(next(17)));
                break;
            case 1:
                same("clearBuffer()", () -> model.clearBuffer(), () -> menus.clearBuffer());
                break;
            case 2:
            case 3:
                writeEntry();
                same("firstError()", () -> model.firstError(), () -> menus.firstError());
                break;
            case 4:
            case 5:
            case 6:
                same("read()", () -> model.read(), () -> menus.read());
                break;
            case 7:
                same("take(" + a + ")", () -> model.take(a), () -> menus.take(a));
                break;
            case 8:
                same("restore(" + a + ")", () -> model.restore(a), () -> menus.restore(a));
                break;
            default:
                same("undo()", () -> model.undo(), () -> menus.undo());
                break;
        }
    }

    private void ask() {
        int a = anyDay();
        int b = near(3);
        int c = anyDish();
        int d = near(15);
        int e = near(6);
        same("planned(" + a + ", " + b + ")", () -> model.planned(a, b), () -> menus.planned(a, b));
        same("dish(" + c + ", " + d + ")", () -> model.dish(c, d), () -> menus.dish(c, d));
        same("guest(" + e + ", " + b + ")", () -> model.guest(e, b), () -> menus.guest(e, b));
        same("day(" + a + ", " + e + ")", () -> model.day(a, e), () -> menus.day(a, e));
        same("source(" + a + ", " + b + ")", () -> model.source(a, b), () -> menus.source(a, b));
        same("count(" + d + ")", () -> model.count(d), () -> menus.count(d));
        same("setting(" + b + ")", () -> model.setting(b), () -> menus.setting(b));
        same("whyNot(" + a + ", " + b + ", " + c + ")", () -> model.whyNot(a, b, c), () -> menus.whyNot(a, b, c));
        same("joyOn(" + a + ", " + c + ")", () -> model.joyOn(a, c), () -> menus.joyOn(a, c));
        same("best(" + a + ", " + b + ")", () -> model.best(a, b), () -> menus.best(a, b));
        same("gain(" + a + ", " + c + ")", () -> model.gain(a, c), () -> menus.gain(a, c));
        same("bestDay(" + c + ")", () -> model.bestDay(c), () -> menus.bestDay(c));
        same("usedShare()", () -> Double.doubleToLongBits(model.usedShare()), () -> Double.doubleToLongBits(menus.usedShare()));
    }

    private void go(int number) {
        menus = new FatigueMenus();
        model = new Model();
        run = number;
        seed = number;
        for (step = 0; step < CALLS; step++) {
            int kind = next(20);
            // First the dishes come, for without them all else is refused; then mostly the plan changes.
            if (step < 40 ? kind < 14 : kind < 3) {
                arrange();
            } else if (kind < 16) {
                plan();
            } else {
                writeAndSave();
            }
            if (step % 4 == 0) {
                ask();
            }
            if (step % 8 == 0) {
                same("digest()", () -> model.digest(), () -> menus.digest());
            }
        }
        same("digest()", () -> model.digest(), () -> menus.digest());
    }

    public static void main(String[] args) {
        for (int number = 0; number < RUNS; number++) {
            new ModelRuns().go(number);
        }
        Check.finish("ModelRuns");
    }
}
