/** Promises 9 to 21: thrones and bookings. */
public final class ThronesTest {
    private static final int FAR = Integer.MAX_VALUE;
    private static final int DEEP = Integer.MIN_VALUE;

    public static void main(String[] args) {
        promise9();
        promise10();
        promise11();
        promise12();
        promise12Order();
        promise12Refused();
        promise12RefusedInOrder();
        promise13();
        promise13Exempt();
        promise13Patented();
        promise13Slips();
        promise13Lost();
        promise13FineLost();
        promise14();
        promise15();
        promise16();
        promises17And18();
        promises17And18Ties();
        promises19And20();
        promise21();
        promise21Lost();
        Due.finish();
    }

    private static void promise9() {
        JesterUnion x = new JesterUnion();
        Due.due("no such throne", x.exempt(4, 1), JesterUnion.NONE);
        Due.due("no such throne, below 0", x.exempt(-1, 1), JesterUnion.NONE);
        Due.due("NONE is ahead of BAD", x.exempt(DEEP, 2), JesterUnion.NONE);
        for (int isExempt : Due.row(-1, 2, FAR, DEEP)) {
            Due.due("exempt(0, " + isExempt + ")", x.exempt(0, isExempt), JesterUnion.BAD);
        }
        Due.dueRefused("it is not", x, x.exempt(3, 0), 9, 0);
        Due.due("one", x.exempt(3, 1), 1);
        Due.dueRefused("it is", x, x.exempt(3, 1), 9, 1);
        Due.due("two", x.exempt(0, 1), 2);
        Due.due("one again", x.exempt(3, 0), 1);
        Due.due("none again", x.exempt(0, 0), 0);
    }

    private static void promise10() {
        JesterUnion x = Due.union(Due.row(9, 1), Due.row(9, 2));
        Due.due("no such throne", x.throneOf(4, 0), JesterUnion.NONE);
        Due.due("no such throne, below 0", x.throneOf(-1, 0), JesterUnion.NONE);
        Due.due("NONE is ahead of BAD", x.throneOf(FAR, 4), JesterUnion.NONE);
        for (int what : Due.row(-1, 4, FAR, DEEP)) {
            Due.due("throneOf(0, " + what + ")", x.throneOf(0, what), JesterUnion.BAD);
        }
        Due.perform(x, 0, 0, 2);
        Due.perform(x, 0, 1, 2);
        Due.perform(x, 1, 1, 2);
        x.book(0, 0, 2, 5);
        x.book(1, 0, 2, 5);
        x.book(1, 0, 1, 6);
        Due.due("not exempt", x.throneOf(2, 0), 0);
        Due.due("the jokes told there, slips too", x.throneOf(2, 1), 3);
        Due.due("the coins that it paid", x.throneOf(2, 2), 18 + 11);
        Due.due("the bookings for it", x.throneOf(2, 3), 2);
        Due.due("none were told at another", x.throneOf(1, 1), 0);
        x.exempt(2, 1);
        Due.due("exempt", x.throneOf(2, 0), 1);
        Due.due("the bookings for it wait", x.throneOf(2, 3), 2);
    }

    private static void promise11() {
        JesterUnion x = Due.union(Due.row(9, 1), Due.row(9, 2));
        Due.due("no such joke", x.told(2, 0), JesterUnion.NONE);
        Due.due("no such joke, below 0", x.told(-1, 0), JesterUnion.NONE);
        Due.due("no such throne", x.told(0, 4), JesterUnion.NONE);
        Due.due("no such throne, below 0", x.told(0, DEEP), JesterUnion.NONE);
        Due.due("never", x.told(0, 3), 0);
        Due.perform(x, 0, 0, 3);
        Due.perform(x, 1, 0, 3);
        Due.perform(x, 1, 1, 3);
        Due.perform(x, 1, 0, 2);
        Due.due("twice, by two fools", x.told(0, 3), 2);
        Due.due("once, as a slip", x.told(1, 3), 1);
        Due.due("once at another throne", x.told(0, 2), 1);
        Due.due("never at another throne", x.told(1, 2), 0);
    }

    private static void promise12() {
        JesterUnion x = Due.union(Due.row(9, 1), Due.row(9, 2));
        Due.due("no such fool", x.book(2, 0, 0, 0), JesterUnion.NONE);
        Due.due("no such fool, below 0", x.book(-1, 0, 0, 0), JesterUnion.NONE);
        Due.due("no such joke", x.book(0, 2, 0, 0), JesterUnion.NONE);
        Due.due("no such joke, below 0", x.book(0, DEEP, 0, 0), JesterUnion.NONE);
        Due.due("no such throne", x.book(0, 0, 4, 0), JesterUnion.NONE);
        Due.due("no such throne, below 0", x.book(0, 0, -1, 0), JesterUnion.NONE);
        Due.due("NONE is ahead of BAD", x.book(0, 0, 4, 100), JesterUnion.NONE);
        for (int hour : Due.row(-1, 100, FAR, DEEP)) {
            Due.due("book(0, 0, 0, " + hour + ")", x.book(0, 0, 0, hour), JesterUnion.BAD);
        }
        x.pass(5);
        Due.due("BAD is ahead of REFUSED", x.book(0, 0, 0, -1), JesterUnion.BAD);
        Due.dueRefused("an hour that is past", x, x.book(0, 0, 0, 4), 2, 5);
        Due.due("the hour that it is", x.book(0, 0, 0, 5), 0);
        Due.due("the last hour", x.book(0, 0, 0, 99), 1);
        Due.due("two wait", x.account(2), 2);
    }

    private static void promise12Order() {
        JesterUnion x = Due.union(Due.row(1, 2, 3, 4), Due.row(5, 8, 5));
        Due.due("the first", x.book(2, 0, 0, 7), 0);
        Due.due("an earlier hour", x.book(3, 0, 0, 6), 0);
        Due.due("a later hour", x.book(3, 0, 0, 8), 2);
        Due.due("more wit in the same hour", x.book(3, 1, 0, 7), 1);
        Due.due("a lower fool with the same wit", x.book(1, 2, 0, 7), 2);
        Due.due("the lowest fool with the same wit", x.book(0, 0, 0, 7), 2);
        x.tellBookings();
        Due.dueText("the order", Due.line(x), "3:0@0=6 3:1@0=7 0:0@0=7 1:2@0=7 2:0@0=7 3:0@0=8");
        Due.due("carried out first", x.next(), 9);
        Due.due("carried out second", x.next(), 12);
        x.tellBookings();
        Due.dueText("the order then", Due.line(x), "0:0@0=7 1:2@0=7 2:0@0=7 3:0@0=8");
    }

    private static void promise12Refused() {
        JesterUnion x = Due.union(Due.row(1, 2), Due.row(5, 8, 5));
        x.patent(1, 1, 4);
        Due.dueRefused("patented by another, though it ends before", x, x.book(0, 1, 0, 50), 3, 1);
        Due.due("patented by that fool", x.book(1, 1, 0, 50), 0);
        Due.dueRefused("a booking for that hour", x, x.book(1, 2, 3, 50), 5, 1);
        Due.due("another hour", x.book(1, 2, 3, 51), 1);
        x.pass(4);
        Due.due("the patent has ended", x.book(0, 1, 0, 50), 0);
        for (int hour = 60; hour < 67; hour++) {
            Due.due("there is room", x.book(0, 0, 1, hour), hour - 57);
        }
        Due.dueRefused("an eleventh", x, x.book(0, 0, 1, 70), 1, 10);
        Due.due("ten wait", x.account(2), 10);
    }

    private static void promise12RefusedInOrder() {
        JesterUnion x = Due.union(Due.row(1, 2), Due.row(5, 8));
        x.pass(2);
        for (int hour = 20; hour < 30; hour++) {
            x.book(0, 0, 0, hour);
        }
        x.patent(1, 0, 20);
        x.exempt(0, 1);
        Due.dueRefused("2 is ahead of all", x, x.book(0, 0, 0, 1), 2, 2);
        Due.dueRefused("4 is ahead of 3", x, x.book(0, 0, 0, 20), 4, 0);
        Due.dueRefused("3 is ahead of 5", x, x.book(0, 0, 1, 20), 3, 1);
        Due.dueRefused("5 is ahead of 1", x, x.book(0, 1, 1, 20), 5, 0);
        Due.dueRefused("1 is the last", x, x.book(0, 1, 1, 19), 1, 10);
    }

    private static void promise13() {
        JesterUnion x = Due.union(Due.row(6, 3), Due.row(6, 5, 2));
        Due.dueRefused("nothing waits", x, x.next(), 11, 0);
        x.book(0, 0, 1, 9);
        x.book(0, 1, 1, 10);
        Due.due("12 laughs", x.next(), 12);
        Due.due("it is its hour", x.account(3), 9);
        Due.due("the coins", x.foolOf(0, 1), 22);
        Due.due("a tear above 11", x.foolOf(0, 2), 1);
        Due.due("11 laughs", x.next(), 11);
        Due.due("no tear at 11", x.foolOf(0, 2), 1);
        Due.dueRefused("nothing waits any more", x, x.next(), 11, 2);
        Due.due("it was told there, by another fool", Due.perform(x, 1, 0, 1), 7);
        Due.due("and once more", Due.perform(x, 1, 0, 1), 5);
        Due.due("5 laughs are no slip", x.foolOf(1, 7), 0);
        Due.due("the coins for them", x.foolOf(1, 1), 10 + 7 + 5);
        Due.due("at another throne", Due.perform(x, 1, 0, 2), 9);
        Due.due("carried out", x.account(10), 5);
    }

    private static void promise13Exempt() {
        JesterUnion x = Due.union(Due.row(6, 3), Due.row(6, 5));
        x.book(0, 0, 1, 4);
        x.patent(1, 0, 10);
        x.exempt(1, 1);
        Due.due("sent away", x.next(), 0);
        Due.due("it is its hour", x.account(3), 4);
        Due.due("no fine", x.foolOf(0, 1), 10);
        Due.due("not told", x.told(0, 1), 0);
        Due.due("carried out", x.account(10), 1);
        Due.due("nothing waits", x.account(2), 0);
        Due.due("no slip", x.account(11), 0);
    }

    private static void promise13Patented() {
        JesterUnion x = Due.union(Due.row(6, 3), Due.row(6, 5, 1));
        x.book(0, 0, 1, 3);
        x.book(0, 0, 1, 4);
        x.book(0, 0, 1, 5);
        x.patent(1, 0, 5);
        x.patent(0, 1, 18);
        Due.due("1 coin is left", x.foolOf(0, 1), 1);
        Due.due("not told", x.next(), 0);
        Due.due("as far as there are so many", x.foolOf(0, 1), 0);
        Due.due("the other got it", x.foolOf(1, 1), 10 - 3 + 1);
        Due.due("without coins", x.next(), 0);
        Due.due("the other got nothing", x.foolOf(1, 1), 8);
        Due.due("never told", x.jokeOf(0, 3), 0);
        Due.due("no slips", x.foolOf(0, 7), 0);
        Due.due("told in the hour in which the patent ends", x.next(), 12);
        JesterUnion rich = Due.union(Due.row(6, 3), Due.row(6));
        rich.book(0, 0, 1, 3);
        rich.patent(1, 0, 4);
        rich.next();
        Due.due("2 coins are paid", rich.foolOf(0, 1), 8);
        Due.due("2 coins come", rich.foolOf(1, 1), 10);
        Due.due("the union got none of them", rich.account(7), 2);
    }

    private static void promise13Slips() {
        JesterUnion x = Due.union(Due.row(1), Due.row(3, 1, 1));
        Due.due("4 laughs", Due.perform(x, 0, 0, 0), 4);
        Due.due("a slip", x.foolOf(0, 7), 1);
        Due.due("3 coins", x.foolOf(0, 1), 7);
        Due.due("go to the union", x.account(7), 3);
        Due.due("the throne pays nothing", x.throneOf(0, 2), 0);
        x.insure(0);
        Due.due("2 laughs, more tedious", Due.perform(x, 0, 0, 0), 2);
        Due.due("insured no more", x.foolOf(0, 3), 0);
        Due.due("nothing is paid", x.foolOf(0, 1), 5);
        Due.due("a slip, too", x.foolOf(0, 7), 2);
        Due.due("0 laughs", Due.perform(x, 0, 0, 0), 0);
        Due.due("not below 0", Due.perform(x, 0, 0, 0), 0);
        Due.due("as far as there are so many", x.foolOf(0, 1), 0);
        Due.due("the union got as many", x.account(7), 10);
        Due.due("without coins", Due.perform(x, 0, 1, 0), 2);
        Due.due("still none", x.foolOf(0, 1), 0);
        Due.due("told", x.foolOf(0, 6), 5);
    }

    private static void promise13Lost() {
        JesterUnion x = Due.union(Due.row(9, 9), Due.row(9, 9));
        for (int throne = 0; throne < 4; throne++) {
            Due.perform(x, 0, 0, throne);
        }
        Due.due("82 coins", x.foolOf(0, 1), 82);
        x.patent(0, 1, 9);
        Due.due("77 coins", x.foolOf(0, 1), 77);
        Due.perform(x, 0, 1, 0);
        Due.due("95 coins", x.foolOf(0, 1), 95);
        Due.due("nothing lost", x.account(8), 0);
        Due.due("all laughs are told", Due.perform(x, 0, 1, 1), 18);
        Due.due("99 coins", x.foolOf(0, 1), 99);
        Due.due("14 lost", x.account(8), 14);
        Due.due("the throne paid them, too", x.throneOf(1, 2), 36);
        Due.due("the tears are not lost", x.foolOf(0, 2), 42);
    }

    /** The one who is paid has 99 coins, so that the fine of the other is lost. */
    private static void promise13FineLost() {
        JesterUnion x = Due.union(Due.row(9, 9), Due.row(9, 9));
        for (int throne = 0; throne < 4; throne++) {
            Due.perform(x, 0, 0, throne);
        }
        x.book(1, 1, 3, 3);
        x.patent(0, 1, 4);
        Due.perform(x, 0, 0, 0);
        Due.due("96 coins", x.foolOf(0, 1), 96);
        x.book(0, 0, 1, 0);
        x.next();
        Due.due("99 coins", x.foolOf(0, 1), 99);
        int lost = x.account(8);
        Due.due("the fine", x.next(), 0);
        Due.due("is paid", x.foolOf(1, 1), 8);
        Due.due("comes to nobody", x.foolOf(0, 1), 99);
        Due.due("is lost", x.account(8), lost + 2);
        Due.due("is accounted for", x.isBalanced(), 1);
    }

    private static void promise14() {
        JesterUnion x = Due.union(Due.row(6, 3), Due.row(6, 5, 1, 2));
        for (int hours : Due.row(0, 25, -1, FAR, DEEP)) {
            Due.due("pass(" + hours + ")", x.pass(hours), JesterUnion.BAD);
        }
        x.patent(0, 0, 2);
        x.patent(0, 1, 3);
        x.patent(1, 2, 3);
        x.patent(1, 3, 5);
        Due.due("none ends", x.pass(1), 0);
        Due.due("three end", x.pass(2), 3);
        Due.due("it is", x.account(3), 3);
        Due.due("one ends", x.pass(24), 1);
        Due.due("those that ended do not end again", x.pass(1), 0);
        x.book(1, 3, 0, 40);
        x.book(1, 2, 0, 35);
        Due.due("BAD is ahead of REFUSED", x.pass(25), JesterUnion.BAD);
        Due.dueRefused("beyond the next booking", x, x.pass(8), 5, 2);
        Due.due("it is still", x.account(3), 28);
        Due.due("up to the next booking", x.pass(7), 0);
        Due.dueRefused("beyond it", x, x.pass(1), 5, 2);
        x.next();
        Due.due("up to the one after it", x.pass(5), 0);
        Due.dueRefused("beyond the only one", x, x.pass(1), 5, 3);
    }

    private static void promise15() {
        JesterUnion x = Due.union(Due.row(6, 3), Due.row(6, 5));
        Due.due("no place yet", x.booking(0, 0), JesterUnion.NONE);
        x.book(1, 1, 3, 40);
        x.book(1, 0, 2, 35);
        Due.due("no such place", x.booking(2, 0), JesterUnion.NONE);
        Due.due("no such place, below 0", x.booking(-1, 0), JesterUnion.NONE);
        Due.due("NONE is ahead of BAD", x.booking(FAR, 4), JesterUnion.NONE);
        for (int what : Due.row(-1, 4, FAR, DEEP)) {
            Due.due("booking(0, " + what + ")", x.booking(0, what), JesterUnion.BAD);
        }
        int[] first = {1, 0, 2, 35};
        int[] second = {1, 1, 3, 40};
        for (int what = 0; what <= 3; what++) {
            Due.due("booking(0, " + what + ")", x.booking(0, what), first[what]);
            Due.due("booking(1, " + what + ")", x.booking(1, what), second[what]);
        }
        x.next();
        Due.due("the second is the first then", x.booking(0, 3), 40);
        Due.due("and there is no second", x.booking(1, 3), JesterUnion.NONE);
    }

    private static void promise16() {
        JesterUnion x = Due.union(Due.row(6, 1), Due.row(6, 2));
        Due.due("no such fool", x.would(2, 0, 0), JesterUnion.NONE);
        Due.due("no such fool, below 0", x.would(-1, 0, 0), JesterUnion.NONE);
        Due.due("no such joke", x.would(0, 2, 0), JesterUnion.NONE);
        Due.due("no such joke, below 0", x.would(0, DEEP, 0), JesterUnion.NONE);
        Due.due("no such throne", x.would(0, 0, 4), JesterUnion.NONE);
        Due.due("no such throne, below 0", x.would(0, 0, -1), JesterUnion.NONE);
        Due.due("12 laughs", x.would(0, 0, 0), 12);
        Due.due("3 laughs are told, too", x.would(1, 1, 0), 3);
        Due.perform(x, 0, 1, 0);
        Due.due("2 less", x.would(1, 1, 0), 1);
        Due.perform(x, 0, 1, 0);
        Due.due("not below 0", x.would(1, 1, 0), 0);
        x.patent(0, 0, 2);
        Due.due("patented by another", x.would(1, 0, 0), 0);
        Due.due("patented by that fool", x.would(0, 0, 0), 12);
        x.exempt(0, 1);
        Due.due("exempt", x.would(0, 0, 0), 0);
        x.exempt(0, 0);
        x.pass(2);
        Due.due("the patent has ended", x.would(1, 0, 0), 7);
        Due.due("nothing is told by that", x.told(0, 0), 0);
    }

    private static void dueBest(String call, JesterUnion x, int fool, int throne, int want) {
        Due.due(call + ", joke by joke", x.best(fool, throne), want);
        Due.due(call + ", by wit", x.bestAgain(fool, throne), want);
    }

    private static void promises17And18() {
        JesterUnion x = Due.union(Due.row(5, 1), Due.row());
        dueBest("no such fool", x, 2, 0, JesterUnion.NONE);
        dueBest("no such fool, below 0", x, -1, 0, JesterUnion.NONE);
        dueBest("no such throne", x, 0, 4, JesterUnion.NONE);
        dueBest("no such throne, below 0", x, 0, DEEP, JesterUnion.NONE);
        dueBest("no jokes", x, 0, 0, JesterUnion.NOTHING);
        x.joke(3);
        x.joke(8);
        x.joke(7);
        dueBest("the most wit", x, 0, 0, 1);
        Due.perform(x, 0, 1, 0);
        dueBest("less after it was told", x, 0, 0, 2);
        dueBest("at another throne", x, 0, 1, 1);
        x.patent(0, 2, 3);
        dueBest("patented by another", x, 1, 0, 1);
        dueBest("patented by that fool", x, 0, 0, 2);
        x.exempt(0, 1);
        dueBest("exempt", x, 0, 0, JesterUnion.NOTHING);
        x.pass(3);
        dueBest("the patent has ended", x, 1, 2, 1);
    }

    private static void promises17And18Ties() {
        JesterUnion x = Due.union(Due.row(1), Due.row(4, 6, 6, 8));
        Due.perform(x, 0, 3, 0);
        dueBest("of several the lowest", x, 0, 0, 1);
        Due.perform(x, 0, 1, 0);
        dueBest("of two with other wits the lower", x, 0, 0, 2);
        Due.perform(x, 0, 2, 0);
        Due.perform(x, 0, 3, 0);
        dueBest("of four the lowest", x, 0, 0, 0);
        JesterUnion dull = Due.union(Due.row(1, 2), Due.row(1));
        Due.perform(dull, 0, 0, 0);
        dueBest("no laugh is left", dull, 0, 0, JesterUnion.NOTHING);
        dueBest("a laugh is left for another", dull, 1, 0, 0);
    }

    private static void dueEnd(String call, JesterUnion x, int want) {
        Due.due(call + ", joke by joke", x.ends(), want);
        Due.due(call + ", by the hours", x.endsAgain(), want);
    }

    private static void promises19And20() {
        JesterUnion x = Due.union(Due.row(9, 8), Due.row(9, 5, 4));
        dueEnd("no patent", x, JesterUnion.NOTHING);
        Due.perform(x, 0, 0, 0);
        Due.perform(x, 0, 0, 1);
        x.patent(0, 0, 48);
        dueEnd("the latest that can be", x, 48);
        x.patent(1, 1, 7);
        dueEnd("an earlier one", x, 7);
        x.patent(1, 2, 9);
        dueEnd("a later one", x, 7);
        x.pass(6);
        dueEnd("in its last hour", x, 7);
        x.pass(1);
        dueEnd("it has ended", x, 9);
        x.pass(2);
        dueEnd("both have ended", x, 48);
        x.pass(24);
        x.pass(14);
        dueEnd("in the last hour of all", x, 48);
        x.pass(1);
        dueEnd("all have ended", x, JesterUnion.NOTHING);
    }

    private static void promise21() {
        JesterUnion x = Due.union(Due.row(5, 1), Due.row(5, 3, 4));
        Due.due("nothing waits", x.forecast(), 0);
        x.book(0, 0, 0, 3);
        Due.due("one is told", x.forecast(), 10);
        x.book(1, 0, 0, 4);
        Due.due("then it is a slip", x.forecast(), 10 - 3);
        x.insure(1);
        Due.due("then it is insured", x.forecast(), 10);
        x.book(1, 1, 1, 5);
        Due.due("insured for one only", x.forecast(), 10 - 3);
        String before = Due.state(x);
        x.patent(0, 0, 4);
        Due.due("in hour 4 the patent has ended", x.forecast(), 10 - 3);
        x.undo();
        x.patent(0, 0, 5);
        Due.due("a fine goes to a fool, and the insurance stays", x.forecast(), 10);
        x.undo();
        x.exempt(0, 1);
        Due.due("sent away twice", x.forecast(), 0);
        x.undo();
        Due.dueText("nothing is different by that", Due.state(x), before);
        JesterUnion dull = Due.union(Due.row(1), Due.row(1));
        dull.patent(0, 0, 16);
        dull.book(0, 0, 0, 0);
        dull.book(0, 0, 0, 1);
        Due.due("below 0, as far as there are so many", dull.forecast(), -2);
    }

    private static void promise21Lost() {
        JesterUnion x = Due.union(Due.row(9), Due.row(9, 9));
        for (int throne = 0; throne < 4; throne++) {
            Due.perform(x, 0, 0, throne);
        }
        x.book(0, 1, 0, 5);
        Due.due("without what is lost", x.forecast(), 17);
        x.book(0, 1, 1, 6);
        Due.due("no more than 99", x.forecast(), 17);
        Due.due("it comes so", x.next(), 18);
        Due.due("the coins", x.foolOf(0, 1), 99);
        Due.due("then no more", x.forecast(), 0);
    }
}
