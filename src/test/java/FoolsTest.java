/** Promises 1 to 8: a new object, fools and jokes. */
public final class FoolsTest {
    private static final int FAR = Integer.MAX_VALUE;
    private static final int DEEP = Integer.MIN_VALUE;

    public static void main(String[] args) {
        promise1();
        promise2();
        promise3();
        promise4();
        promise4Refused();
        promise4Ends();
        promise5();
        promise6();
        promise6Poor();
        promise7();
        promise8();
        Due.finish();
    }

    private static void promise1() {
        JesterUnion x = new JesterUnion();
        for (int what = 0; what <= 14; what++) {
            Due.due("account(" + what + ") of a new object", x.account(what), 0);
        }
        for (int throne = 0; throne < 4; throne++) {
            for (int what = 0; what <= 3; what++) {
                Due.due("throneOf(" + throne + ", " + what + ") of a new object", x.throneOf(throne, what), 0);
            }
        }
        Due.due("no fool yet", x.foolOf(0, 0), JesterUnion.NONE);
        Due.due("no joke yet", x.jokeOf(0, 0), JesterUnion.NONE);
        Due.due("no line yet", x.character(0), JesterUnion.NONE);
        Due.due("no reason yet", x.reason(false), JesterUnion.NOTHING);
        x.fool(5);
        Due.due("another object is new", new JesterUnion().account(0), 0);
    }

    private static void promise2() {
        JesterUnion x = new JesterUnion();
        for (int skill : Due.row(0, 10, -1, FAR, DEEP)) {
            Due.due("fool(" + skill + ")", x.fool(skill), JesterUnion.BAD);
        }
        Due.due("nobody came", x.account(0), 0);
        Due.due("fool(1)", x.fool(1), 0);
        Due.due("fool(9)", x.fool(9), 1);
        Due.due("the coins at first", x.foolOf(1, 1), 10);
        Due.due("the coins brought", x.account(5), 20);
        for (int fool = 2; fool < 6; fool++) {
            Due.due("fool(5)", x.fool(5), fool);
        }
        Due.due("BAD is ahead of REFUSED", x.fool(0), JesterUnion.BAD);
        Due.due("BAD tells no reason", x.reason(false), JesterUnion.NOTHING);
        Due.dueRefused("a seventh fool", x, x.fool(5), 1, 6);
        Due.due("still six", x.account(0), 6);
        Due.due("six changes", x.account(14), 6);
    }

    private static void promise3() {
        JesterUnion x = new JesterUnion();
        for (int wit : Due.row(0, 10, -1, FAR, DEEP)) {
            Due.due("joke(" + wit + ")", x.joke(wit), JesterUnion.BAD);
        }
        Due.due("joke(1)", x.joke(1), 0);
        Due.due("joke(9)", x.joke(9), 1);
        for (int joke = 2; joke < 12; joke++) {
            Due.due("joke(5)", x.joke(5), joke);
        }
        Due.due("BAD is ahead of REFUSED", x.joke(10), JesterUnion.BAD);
        Due.dueRefused("a thirteenth joke", x, x.joke(5), 1, 12);
        Due.due("still twelve", x.account(1), 12);
        Due.due("their wit", x.jokeOf(1, 0), 9);
    }

    private static void promise4() {
        JesterUnion x = Due.union(Due.row(5, 6), Due.row(4, 4, 4, 4));
        Due.due("no such fool", x.patent(2, 0, 5), JesterUnion.NONE);
        Due.due("no such fool, below 0", x.patent(-1, 0, 5), JesterUnion.NONE);
        Due.due("no such joke", x.patent(0, 4, 5), JesterUnion.NONE);
        Due.due("no such joke, below 0", x.patent(0, DEEP, 5), JesterUnion.NONE);
        Due.due("NONE is ahead of BAD", x.patent(FAR, 0, 0), JesterUnion.NONE);
        for (int hours : Due.row(0, 49, -1, FAR, DEEP)) {
            Due.due("patent(0, 0, " + hours + ")", x.patent(0, 0, hours), JesterUnion.BAD);
        }
        Due.due("for one hour", x.patent(0, 0, 1), 1);
        Due.due("one hour costs 1", x.foolOf(0, 1), 9);
        Due.due("for two hours", x.patent(0, 1, 2), 2);
        Due.due("two hours cost 1", x.foolOf(0, 1), 8);
        Due.due("for three hours", x.patent(0, 2, 3), 3);
        Due.due("three hours cost 2", x.foolOf(0, 1), 6);
        Due.due("the union got it", x.account(7), 4);
        Due.due("BAD is ahead of REFUSED", x.patent(1, 0, 49), JesterUnion.BAD);
    }

    private static void promise4Refused() {
        JesterUnion x = Due.union(Due.row(5, 6), Due.row(4, 4, 4));
        x.patent(1, 0, 20);
        Due.dueRefused("patented by another", x, x.patent(0, 0, 5), 6, 1);
        Due.dueRefused("patented, and without coins: 6 is ahead of 7", x, x.patent(1, 0, 5), 6, 1);
        Due.dueRefused("without coins", x, x.patent(1, 1, 1), 7, 0);
        Due.dueRefused("one coin too few", x, x.patent(0, 1, 21), 7, 10);
        Due.dueRefused("the most hours", x, x.patent(0, 1, 48), 7, 10);
        Due.due("with just the coins", x.patent(0, 1, 20), 20);
        Due.due("none are left", x.foolOf(0, 1), 0);
    }

    private static void promise4Ends() {
        JesterUnion x = Due.union(Due.row(9, 6), Due.row(9, 4));
        x.pass(3);
        Due.due("from now on", x.patent(0, 0, 4), 7);
        x.pass(3);
        Due.dueRefused("in its last hour", x, x.patent(1, 0, 4), 6, 0);
        x.pass(1);
        Due.due("anew, by another", x.patent(1, 0, 4), 11);
        Due.due("the fool that holds it then", x.jokeOf(0, 1), 1);
        JesterUnion rich = Due.union(Due.row(9), Due.row(9, 9));
        for (int turn = 0; turn < 2; turn++) {
            Due.perform(rich, 0, 0, turn);
        }
        Due.due("for the most hours", rich.patent(0, 1, 48), 48);
        Due.due("48 hours cost 24", rich.foolOf(0, 1), 10 + 18 + 18 - 24);
    }

    private static void promise5() {
        JesterUnion x = Due.union(Due.row(5, 6), Due.row(4, 4));
        Due.due("no such fool", x.insure(2), JesterUnion.NONE);
        Due.due("no such fool, below 0", x.insure(-1), JesterUnion.NONE);
        Due.due("no such fool, far out", x.insure(DEEP), JesterUnion.NONE);
        Due.due("once", x.insure(0), 1);
        Due.due("it costs 2", x.foolOf(0, 1), 8);
        Due.due("twice", x.insure(0), 2);
        Due.due("thrice", x.insure(0), 3);
        Due.due("the union got it", x.account(7), 6);
        Due.dueRefused("four times", x, x.insure(0), 8, 3);
        x.patent(0, 0, 8);
        Due.dueRefused("without coins, too: 8 is ahead of 7", x, x.insure(0), 8, 3);
        x.patent(1, 1, 18);
        Due.dueRefused("with 1 coin", x, x.insure(1), 7, 1);
        Due.due("nothing was paid", x.foolOf(1, 1), 1);
        JesterUnion just = Due.union(Due.row(5), Due.row(4));
        just.patent(0, 0, 16);
        Due.due("with just 2 coins", just.insure(0), 1);
        Due.due("none are left", just.foolOf(0, 1), 0);
    }

    private static void promise6() {
        JesterUnion x = Due.union(Due.row(9, 5), Due.row(9, 5, 4));
        Due.due("no such fool", x.audit(2), JesterUnion.NONE);
        Due.due("no such fool, below 0", x.audit(-1), JesterUnion.NONE);
        Due.dueRefused("without tears", x, x.audit(0), 10, 0);
        Due.due("13 laughs", Due.perform(x, 0, 2, 0), 13);
        Due.dueRefused("with 2 tears", x, x.audit(0), 10, 2);
        Due.due("14 laughs", Due.perform(x, 0, 1, 0), 14);
        Due.due("5 tears", x.foolOf(0, 2), 5);
        Due.due("5 tears cost 1", x.audit(0), 1);
        Due.due("2 tears stay", x.foolOf(0, 2), 2);
        Due.due("the coin is paid", x.foolOf(0, 1), 10 + 13 + 14 - 1);
        Due.due("the union got it", x.account(7), 1);
        Due.dueRefused("with 2 tears left", x, x.audit(0), 10, 2);
        Due.due("18 laughs", Due.perform(x, 0, 0, 0), 18);
        Due.due("9 tears cost 3", x.audit(0), 3);
        Due.due("no tears stay", x.foolOf(0, 2), 0);
    }

    /** A fool with 7 tears whose coins go into patents. */
    private static void promise6Poor() {
        JesterUnion x = Due.union(Due.row(9), Due.row(9, 5));
        Due.perform(x, 0, 0, 0);
        x.patent(0, 0, 48);
        x.patent(0, 1, 6);
        Due.due("1 coin", x.foolOf(0, 1), 1);
        Due.due("as far as there are so many", x.audit(0), 1);
        Due.due("3 tears less for the coin", x.foolOf(0, 2), 4);
        Due.dueRefused("without coins", x, x.audit(0), 7, 0);
        Due.due("the tears stay", x.foolOf(0, 2), 4);
    }

    private static void promise7() {
        JesterUnion x = Due.union(Due.row(7, 1), Due.row(9, 1, 2, 3));
        Due.due("no such fool", x.foolOf(2, 0), JesterUnion.NONE);
        Due.due("no such fool, below 0", x.foolOf(-1, 0), JesterUnion.NONE);
        Due.due("NONE is ahead of BAD", x.foolOf(FAR, 8), JesterUnion.NONE);
        for (int what : Due.row(-1, 8, FAR, DEEP)) {
            Due.due("foolOf(0, " + what + ")", x.foolOf(0, what), JesterUnion.BAD);
        }
        Due.perform(x, 0, 0, 0);
        Due.perform(x, 1, 1, 0);
        x.insure(1);
        Due.perform(x, 1, 2, 0);
        x.insure(1);
        x.patent(0, 0, 2);
        x.patent(0, 1, 4);
        x.patent(1, 2, 2);
        x.book(0, 3, 0, 9);
        x.book(0, 3, 1, 10);
        x.book(1, 3, 1, 10);
        dueRow("fool 0", x, 0, Due.row(7, 10 + 16 - 3, 5, 0, 2, 2, 1, 0));
        dueRow("fool 1", x, 1, Due.row(1, 10 - 3 - 2 - 2 - 1, 0, 1, 1, 1, 2, 2));
        x.pass(2);
        Due.due("the patents of fool 0 that hold", x.foolOf(0, 4), 1);
        Due.due("the patents of fool 1 that hold", x.foolOf(1, 4), 0);
    }

    private static void dueRow(String name, JesterUnion x, int fool, int[] numbers) {
        for (int what = 0; what < numbers.length; what++) {
            Due.due(name + ", number " + what, x.foolOf(fool, what), numbers[what]);
        }
    }

    private static void promise8() {
        JesterUnion x = Due.union(Due.row(7, 8), Due.row(3, 6));
        Due.due("no such joke", x.jokeOf(2, 0), JesterUnion.NONE);
        Due.due("no such joke, below 0", x.jokeOf(-1, 0), JesterUnion.NONE);
        Due.due("NONE is ahead of BAD", x.jokeOf(2, 5), JesterUnion.NONE);
        for (int what : Due.row(-1, 5, FAR, DEEP)) {
            Due.due("jokeOf(0, " + what + ")", x.jokeOf(0, what), JesterUnion.BAD);
        }
        Due.due("the wit", x.jokeOf(1, 0), 6);
        Due.due("by none", x.jokeOf(1, 1), JesterUnion.NOTHING);
        Due.due("for no hours", x.jokeOf(1, 2), 0);
        x.patent(1, 1, 5);
        x.pass(2);
        Due.due("by fool 1", x.jokeOf(1, 1), 1);
        Due.due("for 3 hours yet", x.jokeOf(1, 2), 3);
        x.book(1, 1, 3, 3);
        x.book(1, 1, 2, 4);
        x.book(0, 0, 2, 4);
        Due.due("its bookings", x.jokeOf(1, 4), 2);
        x.next();
        Due.due("its tellings", x.jokeOf(1, 3), 1);
        Due.due("its bookings then", x.jokeOf(1, 4), 1);
        x.next();
        Due.due("its tellings at both thrones", x.jokeOf(1, 3), 2);
        Due.due("for 1 hour yet", x.jokeOf(1, 2), 1);
        x.next();
        x.pass(1);
        Due.due("by none when it ends", x.jokeOf(1, 1), JesterUnion.NOTHING);
        Due.due("for no hours when it ends", x.jokeOf(1, 2), 0);
    }
}
