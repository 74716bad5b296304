/** Promises 1 to 8, a test for each sentence that names a boundary: just inside it, and just outside. */
public final class FoolEdgesTest {
    private static final int FAR = Integer.MAX_VALUE;
    private static final int DEEP = Integer.MIN_VALUE;

    public static void main(String[] args) {
        promise1WithoutFoolsAndJokes();
        promise1InTheHour0();
        promise2Number();
        promise2SkillOutOfRange();
        promise2Full();
        promise3Number();
        promise3WitOutOfRange();
        promise3Full();
        promise4Hours();
        promise4End();
        promise4None();
        promise4OutOfRange();
        promise4Patented();
        promise4TooFewCoins();
        promise5HowMany();
        promise5None();
        promise5FullyInsured();
        promise5TooFewCoins();
        promise6HowManyCoins();
        promise6None();
        promise6TooFewTears();
        promise6WithoutCoins();
        promise7None();
        promise7What();
        promise7AtFirst();
        promise7Patents();
        promise7Bookings();
        promise7Told();
        promise7Slips();
        promise8None();
        promise8What();
        promise8Fool();
        promise8Hours();
        promise8Told();
        promise8Bookings();
        Due.finish();
    }

    // ---- promise 1

    private static void promise1WithoutFoolsAndJokes() {
        Due.promise(1, "Begins without fools and jokes");
        JesterUnion x = new JesterUnion();
        Due.due("the fools", x.account(0), 0);
        Due.due("the jokes", x.account(1), 0);
        Due.dueNone("fool 0", x.foolOf(0, 0));
        Due.dueNone("joke 0", x.jokeOf(0, 0));
        Due.due("the first fool", x.fool(1), 0);
        Due.due("the first joke", x.joke(1), 0);
        Due.due("fool 0 then", x.foolOf(0, 0), 1);
        Due.due("joke 0 then", x.jokeOf(0, 0), 1);
        Due.dueNone("fool 1", x.foolOf(1, 0));
        Due.dueNone("joke 1", x.jokeOf(1, 0));
    }

    private static void promise1InTheHour0() {
        Due.promise(1, "in the hour 0");
        JesterUnion x = Due.union(Due.row(5), Due.row(5));
        Due.due("the hour", x.account(3), 0);
        Due.due("a booking for the hour 0", x.book(0, 0, 0, 0), 0);
        x.next();
        Due.due("the hour is still", x.account(3), 0);
        x.pass(1);
        Due.due("the hour then", x.account(3), 1);
        Due.dueRefused("the hour 0 is past then", x, x.book(0, 0, 0, 0), 2, 1);
    }

    // ---- promise 2

    private static void promise2Number() {
        Due.promise(2, "Returns the number of the fool");
        JesterUnion x = new JesterUnion();
        for (int fool = 0; fool < 6; fool++) {
            Due.due("the next fool", x.fool(fool + 2), fool);
        }
        for (int fool = 0; fool < 6; fool++) {
            Due.due("the skill of fool " + fool, x.foolOf(fool, 0), fool + 2);
        }
    }

    private static void promise2SkillOutOfRange() {
        Due.promise(2, "BAD if the skill is out of range");
        JesterUnion x = new JesterUnion();
        for (int skill : Due.row(DEEP, -1, 0, 10, 11, FAR)) {
            Due.dueBad("fool(" + skill + ")", x.fool(skill));
        }
        Due.due("no fool came", x.account(0), 0);
        Due.due("fool(1)", x.fool(1), 0);
        Due.due("fool(9)", x.fool(9), 1);
        x = Due.full(5, 5);
        for (int skill : Due.row(0, 10)) {
            Due.dueBad("fool(" + skill + ") with 6 fools", x.fool(skill));
        }
        Due.due("no reason", x.reason(false), JesterUnion.NOTHING);
    }

    private static void promise2Full() {
        Due.promise(2, "REFUSED for the reason 1");
        JesterUnion x = Due.union(Due.row(5, 5, 5, 5, 5), Due.row());
        Due.due("the sixth", x.fool(5), 5);
        Due.dueRefused("the seventh", x, x.fool(5), 1, 6);
        Due.dueRefused("the seventh with another skill", x, x.fool(1), 1, 6);
        Due.due("the fools", x.account(0), 6);
        Due.due("the coins brought", x.account(5), 60);
        x.undo();
        Due.due("the sixth again", x.fool(4), 5);
    }

    // ---- promise 3

    private static void promise3Number() {
        Due.promise(3, "Returns its number");
        JesterUnion x = new JesterUnion();
        for (int joke = 0; joke < 12; joke++) {
            Due.due("the next joke", x.joke(joke % 9 + 1), joke);
        }
        for (int joke = 0; joke < 12; joke++) {
            Due.due("the wit of joke " + joke, x.jokeOf(joke, 0), joke % 9 + 1);
        }
    }

    private static void promise3WitOutOfRange() {
        Due.promise(3, "BAD if the wit is out of range");
        JesterUnion x = new JesterUnion();
        for (int wit : Due.row(DEEP, -1, 0, 10, 11, FAR)) {
            Due.dueBad("joke(" + wit + ")", x.joke(wit));
        }
        Due.due("no joke was told", x.account(1), 0);
        Due.due("joke(1)", x.joke(1), 0);
        Due.due("joke(9)", x.joke(9), 1);
        x = Due.full(5, 5);
        for (int wit : Due.row(0, 10)) {
            Due.dueBad("joke(" + wit + ") with 12 jokes", x.joke(wit));
        }
        Due.due("no reason", x.reason(false), JesterUnion.NOTHING);
    }

    private static void promise3Full() {
        Due.promise(3, "REFUSED for the reason 1");
        JesterUnion x = Due.union(Due.row(), Due.row(5, 5, 5, 5, 5, 5, 5, 5, 5, 5, 5));
        Due.due("the twelfth", x.joke(5), 11);
        Due.dueRefused("the thirteenth", x, x.joke(5), 1, 12);
        Due.dueRefused("the thirteenth with another wit", x, x.joke(9), 1, 12);
        Due.due("the jokes", x.account(1), 12);
        x.undo();
        Due.due("the twelfth again", x.joke(4), 11);
    }

    // ---- promise 4

    private static void promise4Hours() {
        Due.promise(4, "for how many hours from now on, 1 to 48");
        JesterUnion x = Due.union(Due.row(9), Due.row(9, 1, 1, 1));
        for (int throne = 0; throne < 4; throne++) {
            Due.perform(x, 0, 0, throne);
        }
        Due.dueBad("0 hours", x.patent(0, 0, 0));
        Due.due("1 hour", x.patent(0, 0, 1), 1);
        Due.due("47 hours", x.patent(0, 1, 47), 47);
        Due.due("48 hours", x.patent(0, 2, 48), 48);
        Due.dueBad("49 hours", x.patent(0, 3, 49));
        x.pass(1);
        Due.due("1 hour from the hour 1 on", x.patent(0, 0, 1), 2);
    }

    private static void promise4End() {
        Due.promise(4, "Returns the hour at which the patent ends");
        JesterUnion x = Due.union(Due.row(5, 5), Due.row(5, 5));
        x.pass(5);
        Due.due("4 hours from the hour 5 on", x.patent(0, 0, 4), 9);
        Due.due("by ends()", x.ends(), 9);
        x.pass(3);
        Due.due("it holds an hour before", x.jokeOf(0, 1), 0);
        x.pass(1);
        Due.due("it is that hour", x.account(3), 9);
        Due.due("it holds no more", x.jokeOf(0, 1), JesterUnion.NOTHING);
    }

    private static void promise4None() {
        Due.promise(4, "NONE if there is no such fool or joke");
        JesterUnion x = Due.full(5, 5);
        for (int fool : Due.row(DEEP, -1, 6, FAR)) {
            Due.dueNone("fool " + fool, x.patent(fool, 0, 1));
            Due.dueNone("fool " + fool + " and 0 hours", x.patent(fool, 0, 0));
        }
        for (int joke : Due.row(DEEP, -1, 12, FAR)) {
            Due.dueNone("joke " + joke, x.patent(0, joke, 1));
            Due.dueNone("joke " + joke + " and 49 hours", x.patent(0, joke, 49));
        }
        Due.due("the first of both", x.patent(0, 0, 1), 1);
        Due.due("the last of both", x.patent(5, 11, 1), 1);
        x = Due.union(Due.row(5), Due.row(5, 5));
        Due.dueNone("fool 1 of 1", x.patent(1, 0, 1));
        Due.dueNone("joke 2 of 2", x.patent(0, 2, 1));
        x.fool(5);
        x.joke(5);
        Due.due("both of them then", x.patent(1, 2, 1), 1);
    }

    private static void promise4OutOfRange() {
        Due.promise(4, "BAD if the number is out of range");
        JesterUnion x = Due.union(Due.row(5), Due.row(5, 5));
        for (int hours : Due.row(DEEP, -1, 0, 49, 50, FAR)) {
            Due.dueBad(hours + " hours", x.patent(0, 0, hours));
        }
        Due.due("20 hours", x.patent(0, 1, 20), 20);
        Due.dueBad("0 hours ahead of the reason 6", x.patent(0, 1, 0));
        Due.dueBad("49 hours ahead of the reasons 6 and 7", x.patent(0, 1, 49));
        Due.dueBad("49 hours ahead of the reason 7", x.patent(0, 0, 49));
        Due.due("no reason", x.reason(false), JesterUnion.NOTHING);
    }

    private static void promise4Patented() {
        Due.promise(4, "REFUSED for the reason 6, also by that fool");
        JesterUnion x = Due.union(Due.row(5, 5, 5), Due.row(5, 5));
        x.patent(1, 0, 3);
        Due.dueRefused("by another", x, x.patent(0, 0, 1), 6, 1);
        Due.dueRefused("by that fool", x, x.patent(1, 0, 1), 6, 1);
        x.pass(2);
        Due.dueRefused("by another in its last hour", x, x.patent(2, 0, 1), 6, 1);
        Due.dueRefused("by that fool in its last hour", x, x.patent(1, 0, 1), 6, 1);
        x.pass(1);
        Due.due("by that fool when it has ended", x.patent(1, 0, 1), 4);
        x.pass(1);
        Due.due("by another when it has ended", x.patent(2, 0, 1), 5);
        Due.due("another joke", x.patent(0, 1, 1), 5);
        Due.leave(x, 1, 7);
    }

    private static void promise4TooFewCoins() {
        Due.promise(4, "or 7");
        JesterUnion x = Due.union(Due.row(5, 5, 5, 5), Due.row(5, 5, 5, 5, 5));
        Due.dueRefused("11 coins with 10, for 21 hours", x, x.patent(0, 0, 21), 7, 10);
        Due.dueRefused("24 coins with 10", x, x.patent(0, 0, 48), 7, 10);
        Due.due("10 coins with 10, for 20 hours", x.patent(0, 0, 20), 20);
        Due.dueRefused("1 coin with 0", x, x.patent(0, 1, 1), 7, 0);
        Due.dueRefused("6 is ahead of 7", x, x.patent(0, 0, 1), 6, 0);
        Due.due("10 coins with 10, for 19 hours", x.patent(1, 1, 19), 19);
        Due.leave(x, 2, 1);
        Due.dueRefused("2 coins with 1", x, x.patent(2, 2, 3), 7, 1);
        Due.due("1 coin with 1", x.patent(2, 2, 2), 2);
        Due.due("the coins of the union", x.account(7), 10 + 10 + 10);
    }

    // ---- promise 5

    private static void promise5HowMany() {
        Due.promise(5, "Returns for how many the fool is insured then");
        JesterUnion x = Due.union(Due.row(1, 1), Due.row(1));
        for (int slips = 1; slips <= 3; slips++) {
            Due.due("the number then", x.insure(0), slips);
            Due.due("by foolOf", x.foolOf(0, 3), slips);
            Due.due("the coins", x.foolOf(0, 1), 10 - 2 * slips);
        }
        Due.perform(x, 0, 0, 0);
        Due.due("after a slip", x.insure(0), 3);
        Due.due("another", x.insure(1), 1);
    }

    private static void promise5None() {
        Due.promise(5, "NONE if there is no such fool");
        JesterUnion x = Due.full(5, 5);
        for (int fool : Due.row(DEEP, -1, 6, FAR)) {
            Due.dueNone("insure(" + fool + ")", x.insure(fool));
        }
        Due.due("insure(0)", x.insure(0), 1);
        Due.due("insure(5)", x.insure(5), 1);
        x = new JesterUnion();
        Due.dueNone("without fools", x.insure(0));
        x.fool(5);
        Due.due("with one", x.insure(0), 1);
        Due.dueNone("with one, the second", x.insure(1));
    }

    private static void promise5FullyInsured() {
        Due.promise(5, "REFUSED for the reason 8");
        JesterUnion x = Due.union(Due.row(1), Due.row(1, 1));
        x.insure(0);
        x.insure(0);
        Due.due("for the third", x.insure(0), 3);
        Due.dueRefused("for the fourth", x, x.insure(0), 8, 3);
        Due.due("the coins", x.foolOf(0, 1), 4);
        Due.leave(x, 0, 1);
        Due.dueRefused("8 is ahead of 7", x, x.insure(0), 8, 3);
    }

    private static void promise5TooFewCoins() {
        Due.promise(5, "8 or 7");
        JesterUnion x = Due.union(Due.row(5, 5, 5, 5), Due.row(5, 5, 5));
        Due.leave(x, 0, 2);
        Due.leave(x, 1, 1);
        Due.leave(x, 2, 0);
        Due.due("with 2 coins", x.insure(0), 1);
        Due.due("which are paid", x.foolOf(0, 1), 0);
        Due.dueRefused("with 1 coin", x, x.insure(1), 7, 1);
        Due.dueRefused("with 0 coins", x, x.insure(2), 7, 0);
        Due.due("insured for none", x.foolOf(1, 3) + x.foolOf(2, 3), 0);
    }

    // ---- promise 6

    /** A fool who has so many tears, after one telling with 11 laughs more. */
    private static JesterUnion weeping(int tears) {
        JesterUnion x = Due.union(Due.row(9), Due.row(tears + 2, 9, 9, 9));
        Due.due("the laughs", Due.perform(x, 0, 0, 0), tears + 11);
        Due.due("the tears", x.foolOf(0, 2), tears);
        return x;
    }

    private static void promise6HowManyCoins() {
        Due.promise(6, "Returns how many coins the fool pays");
        for (int tears = 3; tears <= 7; tears++) {
            JesterUnion x = weeping(tears);
            Due.due("with " + tears + " tears", x.audit(0), tears < 6 ? 1 : 2);
            Due.due("the tears then", x.foolOf(0, 2), tears < 6 ? tears - 3 : tears - 6);
            Due.due("the coins then", x.foolOf(0, 1), 10 + tears + 11 - (tears < 6 ? 1 : 2));
            Due.due("the coins of the union", x.account(7), tears < 6 ? 1 : 2);
        }
        JesterUnion x = weeping(7);
        Due.leave(x, 0, 2);
        Due.due("7 tears and 2 coins", x.audit(0), 2);
        x = weeping(6);
        Due.leave(x, 0, 1);
        Due.due("6 tears and 1 coin", x.audit(0), 1);
        Due.due("3 tears stay", x.foolOf(0, 2), 3);
    }

    private static void promise6None() {
        Due.promise(6, "NONE if there is no such fool");
        JesterUnion x = Due.full(9, 9);
        for (int fool : Due.row(DEEP, -1, 6, FAR)) {
            Due.dueNone("audit(" + fool + ")", x.audit(fool));
        }
        Due.perform(x, 0, 0, 0);
        Due.perform(x, 5, 0, 1);
        Due.due("audit(0)", x.audit(0), 2);
        Due.due("audit(5)", x.audit(5), 2);
        x = new JesterUnion();
        Due.dueNone("without fools", x.audit(0));
    }

    private static void promise6TooFewTears() {
        Due.promise(6, "REFUSED for the reason 10, for fewer than 3");
        for (int tears = 0; tears < 3; tears++) {
            JesterUnion x = weeping(tears);
            Due.dueRefused("with " + tears + " tears", x, x.audit(0), 10, tears);
            Due.due("the tears stay", x.foolOf(0, 2), tears);
            Due.leave(x, 0, 0);
            Due.dueRefused("10 is ahead of 7, with " + tears + " tears", x, x.audit(0), 10, tears);
        }
        Due.due("with 3 tears", weeping(3).audit(0), 1);
    }

    private static void promise6WithoutCoins() {
        Due.promise(6, "or 7, without any");
        JesterUnion x = weeping(3);
        Due.leave(x, 0, 0);
        Due.dueRefused("with 0 coins", x, x.audit(0), 7, 0);
        Due.due("the tears stay", x.foolOf(0, 2), 3);
        x = weeping(3);
        Due.leave(x, 0, 1);
        Due.due("with 1 coin", x.audit(0), 1);
    }

    // ---- promise 7

    private static void promise7None() {
        Due.promise(7, "NONE if there is no such fool");
        JesterUnion x = Due.full(5, 5);
        for (int what = -1; what <= 8; what++) {
            for (int fool : Due.row(DEEP, -1, 6, FAR)) {
                Due.dueNone("foolOf(" + fool + ", " + what + ")", x.foolOf(fool, what));
            }
        }
        Due.due("foolOf(0, 0)", x.foolOf(0, 0), 5);
        Due.due("foolOf(5, 0)", x.foolOf(5, 0), 5);
        x = new JesterUnion();
        Due.dueNone("without fools", x.foolOf(0, 0));
    }

    private static void promise7What() {
        Due.promise(7, "BAD if what is not from 0 to 7");
        JesterUnion x = Due.full(5, 5);
        for (int fool : Due.row(0, 5)) {
            for (int what : Due.row(DEEP, -1, 8, FAR)) {
                Due.dueBad("foolOf(" + fool + ", " + what + ")", x.foolOf(fool, what));
            }
            Due.due("the first, 0, of fool " + fool, x.foolOf(fool, 0), 5);
            Due.due("the last, 7, of fool " + fool, x.foolOf(fool, 7), 0);
        }
    }

    private static void promise7AtFirst() {
        Due.promise(7, "0 for the skill, 1 for the coins, 2 for the tears, 3 for the slips for which the fool is "
            + "insured");
        JesterUnion x = Due.union(Due.row(8), Due.row(9));
        int[] atFirst = {8, 10, 0, 0, 0, 0, 0, 0};
        for (int what = 0; what <= 7; what++) {
            Due.due("foolOf(0, " + what + ") at first", x.foolOf(0, what), atFirst[what]);
        }
        Due.perform(x, 0, 0, 0);
        x.insure(0);
        int[] then = {8, 10 + 17 - 2, 6, 1, 0, 0, 1, 0};
        for (int what = 0; what <= 7; what++) {
            Due.due("foolOf(0, " + what + ") then", x.foolOf(0, what), then[what]);
        }
    }

    private static void promise7Patents() {
        Due.promise(7, "4 for the patents that hold");
        JesterUnion x = Due.union(Due.row(5, 5), Due.row(5, 5, 5));
        Due.due("none", x.foolOf(0, 4), 0);
        x.patent(0, 0, 2);
        x.patent(0, 2, 3);
        x.patent(1, 1, 9);
        Due.due("two", x.foolOf(0, 4), 2);
        Due.due("one of another", x.foolOf(1, 4), 1);
        x.pass(1);
        Due.due("two in the last hour of one", x.foolOf(0, 4), 2);
        x.pass(1);
        Due.due("one when the other has ended", x.foolOf(0, 4), 1);
        x.patent(1, 0, 1);
        Due.due("one when another has the other", x.foolOf(0, 4), 1);
        Due.due("two of another", x.foolOf(1, 4), 2);
        x.pass(1);
        Due.due("none when both have ended", x.foolOf(0, 4), 0);
        x = Due.full(5, 5);
        x.patent(5, 0, 1);
        x.patent(5, 11, 1);
        Due.due("the first and the last of twelve jokes", x.foolOf(5, 4), 2);
        Due.due("none of the first fool", x.foolOf(0, 4), 0);
    }

    private static void promise7Bookings() {
        Due.promise(7, "5 for the bookings that wait");
        JesterUnion x = Due.union(Due.row(5, 5), Due.row(5));
        Due.due("none", x.foolOf(0, 5), 0);
        x.book(0, 0, 0, 1);
        x.book(0, 0, 0, 2);
        x.book(1, 0, 0, 2);
        Due.due("two", x.foolOf(0, 5), 2);
        Due.due("one of another", x.foolOf(1, 5), 1);
        x.next();
        Due.due("one is carried out", x.foolOf(0, 5), 1);
        x.next();
        Due.due("both are carried out", x.foolOf(0, 5), 0);
        Due.due("one of another still", x.foolOf(1, 5), 1);
        for (int hour = 10; hour < 19; hour++) {
            x.book(1, 0, 0, hour);
        }
        Due.due("as many as can wait", x.foolOf(1, 5), 10);
    }

    private static void promise7Told() {
        Due.promise(7, "6 for the jokes told so far");
        JesterUnion x = Due.union(Due.row(5, 1), Due.row(5, 1));
        x.book(0, 0, 0, 1);
        x.book(0, 0, 1, 2);
        x.patent(1, 0, 2);
        x.exempt(1, 1);
        x.next();
        Due.due("not one that is patented by another", x.foolOf(0, 6), 0);
        x.next();
        Due.due("not one at a throne that is exempt", x.foolOf(0, 6), 0);
        Due.perform(x, 0, 0, 0);
        Due.due("one that is told", x.foolOf(0, 6), 1);
        Due.perform(x, 1, 1, 0);
        Due.due("a slip, too", x.foolOf(1, 6), 1);
        Due.due("not that of another", x.foolOf(0, 6), 1);
    }

    private static void promise7Slips() {
        Due.promise(7, "7 for the slips so far");
        JesterUnion x = Due.union(Due.row(1, 1), Due.row(4, 3));
        Due.due("5 laughs", Due.perform(x, 0, 0, 0), 5);
        Due.due("no slip", x.foolOf(0, 7), 0);
        Due.due("4 laughs", Due.perform(x, 0, 1, 0), 4);
        Due.due("a slip", x.foolOf(0, 7), 1);
        x.insure(0);
        Due.perform(x, 0, 1, 0);
        Due.due("a slip for which the fool was insured, too", x.foolOf(0, 7), 2);
        Due.due("none of another", x.foolOf(1, 7), 0);
        x.book(0, 1, 0, 5);
        x.exempt(0, 1);
        x.next();
        Due.due("none at a throne that is exempt", x.foolOf(0, 7), 2);
    }

    // ---- promise 8

    private static void promise8None() {
        Due.promise(8, "NONE if there is no such joke");
        JesterUnion x = Due.full(5, 5);
        for (int what = -1; what <= 5; what++) {
            for (int joke : Due.row(DEEP, -1, 12, FAR)) {
                Due.dueNone("jokeOf(" + joke + ", " + what + ")", x.jokeOf(joke, what));
            }
        }
        Due.due("jokeOf(0, 0)", x.jokeOf(0, 0), 5);
        Due.due("jokeOf(11, 0)", x.jokeOf(11, 0), 5);
        x = new JesterUnion();
        Due.dueNone("without jokes", x.jokeOf(0, 0));
    }

    private static void promise8What() {
        Due.promise(8, "BAD if what is not from 0 to 4");
        JesterUnion x = Due.full(5, 6);
        for (int joke : Due.row(0, 11)) {
            for (int what : Due.row(DEEP, -1, 5, FAR)) {
                Due.dueBad("jokeOf(" + joke + ", " + what + ")", x.jokeOf(joke, what));
            }
            Due.due("the first, 0, of joke " + joke, x.jokeOf(joke, 0), 6);
            Due.due("the last, 4, of joke " + joke, x.jokeOf(joke, 4), 0);
        }
    }

    private static void promise8Fool() {
        Due.promise(8, "1 for the fool whose patent holds, NOTHING if none does");
        JesterUnion x = Due.union(Due.row(5, 5), Due.row(5, 5));
        Due.due("by none at first", x.jokeOf(0, 1), JesterUnion.NOTHING);
        x.patent(0, 0, 1);
        x.patent(1, 1, 2);
        Due.due("by fool 0 in its only hour", x.jokeOf(0, 1), 0);
        x.pass(1);
        Due.due("by none when it has ended", x.jokeOf(0, 1), JesterUnion.NOTHING);
        Due.due("by fool 1 in its last hour", x.jokeOf(1, 1), 1);
        x.patent(1, 0, 1);
        Due.due("by another anew", x.jokeOf(0, 1), 1);
        x.pass(1);
        Due.due("by none when both have ended", x.jokeOf(1, 1), JesterUnion.NOTHING);
    }

    private static void promise8Hours() {
        Due.promise(8, "2 for how many hours it holds yet, 0 if none does");
        JesterUnion x = Due.union(Due.row(9), Due.row(9, 5));
        Due.due("none at first", x.jokeOf(0, 2), 0);
        Due.perform(x, 0, 0, 0);
        x.patent(0, 0, 48);
        Due.due("48", x.jokeOf(0, 2), 48);
        x.pass(24);
        Due.due("24", x.jokeOf(0, 2), 24);
        x.pass(23);
        Due.due("1 in its last hour", x.jokeOf(0, 2), 1);
        x.pass(1);
        Due.due("0 when it has ended", x.jokeOf(0, 2), 0);
        x.pass(1);
        Due.due("0 an hour after, not below", x.jokeOf(0, 2), 0);
        Due.due("0 of another", x.jokeOf(1, 2), 0);
    }

    private static void promise8Told() {
        Due.promise(8, "3 for how often it was told so far");
        JesterUnion x = Due.union(Due.row(5, 1), Due.row(3, 1));
        x.book(0, 0, 0, 1);
        x.book(0, 0, 1, 2);
        x.patent(1, 0, 2);
        x.exempt(1, 1);
        x.next();
        Due.due("not when it is patented by another", x.jokeOf(0, 3), 0);
        x.next();
        Due.due("not at a throne that is exempt", x.jokeOf(0, 3), 0);
        Due.perform(x, 0, 0, 0);
        Due.due("once", x.jokeOf(0, 3), 1);
        Due.perform(x, 1, 0, 2);
        Due.due("at another throne by another, as a slip", x.jokeOf(0, 3), 2);
        Due.perform(x, 1, 0, 3);
        Due.due("at the last throne", x.jokeOf(0, 3), 3);
        Due.due("not the other joke", x.jokeOf(1, 3), 0);
    }

    private static void promise8Bookings() {
        Due.promise(8, "4 for the bookings of it that wait");
        JesterUnion x = Due.union(Due.row(5, 5), Due.row(5, 5));
        Due.due("none", x.jokeOf(1, 4), 0);
        x.book(0, 1, 0, 1);
        x.book(1, 1, 3, 1);
        x.book(1, 0, 3, 2);
        Due.due("two", x.jokeOf(1, 4), 2);
        Due.due("one of the other", x.jokeOf(0, 4), 1);
        x.next();
        Due.due("one is carried out", x.jokeOf(1, 4), 1);
        x.next();
        Due.due("both are carried out", x.jokeOf(1, 4), 0);
        Due.due("one of the other still", x.jokeOf(0, 4), 1);
    }
}
