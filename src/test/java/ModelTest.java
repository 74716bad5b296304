import java.util.function.IntBinaryOperator;
import java.util.function.IntUnaryOperator;

/** All promises: many runs of calls, always the same, on the program and on the model, whose answers must agree. */
public final class ModelTest {
    private static final int RUNS = 3000;
    private static final int CALLS = 512;

    private long seed;
    private JesterUnion x;
    private Model m;
    private String name;
    private int calls;

    public static void main(String[] args) {
        int made = 0;
        for (int run = 1; run <= RUNS && Due.isAllRight(); run++) {
            ModelTest test = new ModelTest();
            test.seed = 7919L * run;
            test.oneRun(run);
            made += test.calls;
        }
        Due.due("there were calls", made > RUNS * CALLS / 2 ? 1 : 0, 1);
        Due.finish();
    }

    /** A number from 0 to bound - 1. */
    private int pick(int bound) {
        seed = (seed * 0x5DEECE66DL + 0xBL) & ((1L << 48) - 1);
        return (int) ((seed >>> 17) % bound);
    }

    private boolean oneIn(int bound) {
        return pick(bound) == 0;
    }

    /** Mostly a number that is there, now and then one that is at an edge or far out. */
    private int near(int first, int last) {
        if (oneIn(40)) {
            int[] odd = {first - 1, last + 1, Integer.MIN_VALUE, Integer.MAX_VALUE, -1, 0};
            return odd[pick(odd.length)];
        }
        return first + pick(last - first + 1);
    }

    private int fool() {
        return near(0, Math.max(0, m.account(0) - 1));
    }

    private int joke() {
        return near(0, Math.max(0, m.account(1) - 1));
    }

    private int throne() {
        return near(0, oneIn(3) ? 3 : 1);
    }

    private int hour() {
        return oneIn(30) ? near(0, 99) : near(m.account(3), m.account(3) + 6);
    }

    private int shortHours() {
        return oneIn(4) ? near(1, 48) : near(1, 8);
    }

    private void oneRun(int run) {
        x = new JesterUnion();
        m = new Model();
        int fools = 1 + pick(6);
        int jokes = 1 + pick(12);
        boolean isWitty = oneIn(3);
        for (int i = 0; i < fools; i++) {
            int skill = isWitty ? near(6, 9) : near(1, 9);
            same("fool(" + skill + ")", x.fool(skill), m.fool(skill));
        }
        for (int i = 0; i < jokes; i++) {
            int wit = isWitty ? near(6, 9) : near(1, 9);
            same("joke(" + wit + ")", x.joke(wit), m.joke(wit));
        }
        while (calls < CALLS - 70 && Due.isAllRight()) {
            name = "run " + run + ", call " + calls + ": ";
            step();
        }
        same("isBalanced()", x.isBalanced(), 1);
    }

    private void same(String call, int got, int want) {
        calls++;
        Due.due(name + call, got, want);
        if (want == Model.REFUSED) {
            Due.due(name + call + " reason", x.reason(false), m.reason(false));
            Due.due(name + call + " detail", x.reason(true), m.reason(true));
            calls += 2;
        }
    }

    private void step() {
        if (oneIn(25)) {
            text();
        } else if (oneIn(2)) {
            change();
        } else {
            ask();
        }
    }

    private void change() {
        switch (pick(18)) {
            case 0: one("fool", near(1, 9), x::fool, m::fool); break;
            case 1: one("joke", near(1, 9), x::joke, m::joke); break;
            case 2:
            case 3: three("patent", fool(), joke(), shortHours(), x::patent, m::patent); break;
            case 4: one("insure", fool(), x::insure, m::insure); break;
            case 5: one("audit", fool(), x::audit, m::audit); break;
            case 6: two("exempt", throne(), near(0, 1), x::exempt, m::exempt); break;
            case 7: one("pass", oneIn(4) ? near(1, 24) : near(1, 3), x::pass, m::pass); break;
            case 8: rare(); break;
            case 9:
            case 10:
            case 11:
            case 12: same("next()", x.next(), m.next()); break;
            default: book(); break;
        }
    }

    private void book() {
        int fool = fool();
        int joke = joke();
        int throne = throne();
        int hour = hour();
        String call = "book(" + fool + ", " + joke + ", " + throne + ", " + hour + ")";
        same(call, x.book(fool, joke, throne, hour), m.book(fool, joke, throne, hour));
    }

    private void rare() {
        switch (pick(8)) {
            case 0: same("save()", x.save(), m.save()); break;
            case 1:
                if (oneIn(3)) {
                    same("restore()", x.restore(), m.restore());
                }
                break;
            default:
                for (int times = 1 + pick(oneIn(6) ? 10 : 2); times > 0; times--) {
                    same("undo()", x.undo(), m.undo());
                }
                break;
        }
    }

    private void ask() {
        switch (pick(20)) {
            case 0: two("foolOf", fool(), near(0, 7), x::foolOf, m::foolOf); break;
            case 1: two("jokeOf", joke(), near(0, 4), x::jokeOf, m::jokeOf); break;
            case 2: two("throneOf", throne(), near(0, 3), x::throneOf, m::throneOf); break;
            case 3: two("told", joke(), throne(), x::told, m::told); break;
            case 4:
            case 5: two("booking", near(0, 9), near(0, 3), x::booking, m::booking); break;
            case 6: three("would", fool(), joke(), throne(), x::would, m::would); break;
            case 7: two("best", fool(), throne(), x::best, m::best); break;
            case 8: two("bestAgain", fool(), throne(), x::bestAgain, m::best); break;
            case 9: same("ends()", x.ends(), m.ends()); break;
            case 10: same("endsAgain()", x.endsAgain(), m.ends()); break;
            case 11:
            case 12: same("forecast()", x.forecast(), m.forecast()); break;
            case 13: one("ranked", near(0, 5), x::ranked, m::ranked); break;
            case 14: one("stalest", near(0, 11), x::stalest, m::stalest); break;
            case 15: one("tell", fool(), x::tell, m::tell); break;
            case 16: same("tellBookings()", x.tellBookings(), m.tellBookings()); break;
            case 17: one("character", near(0, oneIn(3) ? 99 : 12), x::character, m::character); break;
            case 18: one("account", near(0, 14), x::account, m::account); break;
            default: numbers(); break;
        }
    }

    private interface Three {
        int answer(int a, int b, int c);
    }

    private void one(String call, int a, IntUnaryOperator program, IntUnaryOperator model) {
        same(call + "(" + a + ")", program.applyAsInt(a), model.applyAsInt(a));
    }

    private void two(String call, int a, int b, IntBinaryOperator program, IntBinaryOperator model) {
        same(call + "(" + a + ", " + b + ")", program.applyAsInt(a, b), model.applyAsInt(a, b));
    }

    private void three(String call, int a, int b, int c, Three program, Three model) {
        same(call + "(" + a + ", " + b + ", " + c + ")", program.answer(a, b, c), model.answer(a, b, c));
    }

    private void numbers() {
        Due.dueNumber(name + "meanWit()", x.meanWit(), m.meanWit());
        Due.dueNumber(name + "slipShare()", x.slipShare(), m.slipShare());
        calls += 2;
        same("isBalanced()", x.isBalanced(), 1);
        same("reason(false)", x.reason(false), m.reason(false));
        same("reason(true)", x.reason(true), m.reason(true));
    }

    private void text() {
        StringBuilder orders = new StringBuilder();
        int most = oneIn(8) ? 30 : 1 + pick(4);
        for (int order = 0; order < most; order++) {
            orders.append(order > 0 ? ";" : "").append(order());
        }
        if (oneIn(4)) {
            String signs = "fjpbniaxw;:*@=+-0123456789 z/";
            int at = pick(orders.length());
            char sign = signs.charAt(pick(signs.length()));
            if (oneIn(2)) {
                orders.setCharAt(at, sign);
            } else if (oneIn(2)) {
                orders.insert(at, sign);
            } else {
                orders.setLength(at);
            }
        }
        for (int i = 0; i < orders.length() && i < 62; i++) {
            int code = oneIn(200) ? near(32, 126) : orders.charAt(i);
            same("append(" + code + ")", x.append(code), m.append(code));
        }
        same("run() of " + orders, x.run(), m.run());
    }

    private String order() {
        switch (pick(14)) {
            case 0: return "f" + digit(near(1, 9));
            case 1: return "j" + digit(near(1, 9));
            case 2: return "p" + digit(fool()) + ":" + two(joke()) + "*" + two(shortHours());
            case 3: return "i" + digit(fool());
            case 4: return "a" + digit(fool());
            case 5: return "x" + digit(throne()) + (oneIn(2) ? "+" : "-");
            case 6: return "w" + two(near(1, 4));
            case 7: case 8: case 9: return "n";
            default: return "b" + digit(fool()) + ":" + two(joke()) + "@" + digit(throne()) + "=" + two(hour());
        }
    }

    private static String digit(int number) {
        return String.valueOf(Math.floorMod(number, 10));
    }

    private String two(int number) {
        int shown = Math.floorMod(number, 100);
        return shown < 10 && oneIn(5) ? "0" + shown : String.valueOf(shown);
    }
}
