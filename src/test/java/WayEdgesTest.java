/** Promises 17 to 23, a test for each sentence that names a boundary: just inside it, and just outside. */
public final class WayEdgesTest {
    private static final int FAR = Integer.MAX_VALUE;
    private static final int DEEP = Integer.MIN_VALUE;

    public static void main(String[] args) {
        promise17MostLaughs();
        promise17OfSeveralTheLowest();
        promise17None();
        promise17Nothing();
        promise18UntilNoneCouldDoBetter();
        promise18TheSame();
        promise18None();
        promise18Nothing();
        promise19NextEnd();
        promise19Nothing();
        promise20InTheirOrder();
        promise20Nothing();
        promise21WithoutBookings();
        promise21BelowZero();
        promise21Patents();
        promise21Slips();
        promise21Lost();
        promise21Fines();
        promise21Order();
        promise21TenBookings();
        promise22Order();
        promise22None();
        promise23Order();
        promise23None();
        Due.finish();
    }

    // ---- promise 17

    private static void promise17MostLaughs() {
        Due.promise(17, "Returns the joke for which a fool would get the most laughs at a throne now");
        JesterUnion x = Due.union(Due.row(5, 5), Due.row(5, 7, 6));
        Due.due("the most", x.best(0, 0), 1);
        Due.perform(x, 0, 1, 0);
        Due.due("one laugh more", x.best(0, 0), 2);
        Due.due("at another throne", x.best(0, 1), 1);
        x.patent(1, 2, 2);
        Due.due("that is patented by another", x.best(0, 0), 0);
        Due.due("that is patented by that fool", x.best(1, 0), 2);
        x.pass(1);
        Due.due("in the last hour of the patent", x.best(0, 0), 0);
        x.pass(1);
        Due.due("when it has ended", x.best(0, 0), 2);
        JesterUnion full = Due.full(5, 8);
        full.patent(5, 0, 1);
        Due.due("the second of twelve", full.best(0, 3), 1);
        for (int joke = 1; joke < 11; joke++) {
            Due.perform(full, 0, joke, 3);
        }
        Due.due("the last of twelve", full.best(0, 3), 11);
        Due.due("the first of twelve", full.best(5, 3), 0);
    }

    private static void promise17OfSeveralTheLowest() {
        Due.promise(17, "of several the lowest: joke by joke");
        JesterUnion x = Due.union(Due.row(5), Due.row(5, 7, 7, 9));
        Due.perform(x, 0, 3, 0);
        Due.due("of three with 12 laughs", x.best(0, 0), 1);
        Due.perform(x, 0, 1, 0);
        Due.due("of two with 12 laughs", x.best(0, 0), 2);
        Due.perform(x, 0, 2, 0);
        Due.due("with 12 laughs alone", x.best(0, 0), 3);
        Due.perform(x, 0, 3, 0);
        Due.due("of four with 10 laughs", x.best(0, 0), 0);
    }

    private static void promise17None() {
        Due.promise(17, "NONE if there is no such fool or throne");
        JesterUnion x = Due.full(5, 5);
        x.exempt(0, 1);
        for (int fool : Due.row(DEEP, -1, 6, FAR)) {
            Due.dueNone("best(" + fool + ", 0)", x.best(fool, 0));
            Due.dueNone("best(" + fool + ", 3)", x.best(fool, 3));
        }
        for (int throne : Due.row(DEEP, -1, 4, FAR)) {
            Due.dueNone("best(0, " + throne + ")", x.best(0, throne));
            Due.dueNone("best(5, " + throne + ")", x.best(5, throne));
        }
        Due.due("best(0, 1)", x.best(0, 1), 0);
        Due.due("best(5, 3)", x.best(5, 3), 0);
        x = new JesterUnion();
        Due.dueNone("without fools", x.best(0, 0));
        x.joke(5);
        Due.dueNone("with a joke alone", x.best(0, 0));
    }

    private static void promise17Nothing() {
        Due.promise(17, "NOTHING if there is none with which there would be a laugh");
        JesterUnion x = Due.union(Due.row(1, 2), Due.row());
        Due.due("without jokes", x.best(0, 0), JesterUnion.NOTHING);
        x.joke(1);
        Due.due("with 2 laughs", x.best(0, 0), 0);
        x.exempt(0, 1);
        Due.due("at a throne that is exempt", x.best(0, 0), JesterUnion.NOTHING);
        x.exempt(0, 0);
        Due.perform(x, 0, 0, 0);
        Due.due("with 0 laughs", x.best(0, 0), JesterUnion.NOTHING);
        Due.due("with 1 laugh", x.best(1, 0), 0);
        x.patent(0, 0, 1);
        Due.due("patented by another", x.best(1, 0), JesterUnion.NOTHING);
        x.pass(1);
        Due.due("when it has ended", x.best(1, 0), 0);
        Due.perform(x, 0, 0, 0);
        Due.due("below 0 laughs", x.best(0, 0), JesterUnion.NOTHING);
    }

    // ---- promise 18

    private static void promise18UntilNoneCouldDoBetter() {
        Due.promise(18, "by wit, from the most down, until no joke could do better");
        JesterUnion x = Due.union(Due.row(3), Due.row(1, 2, 3, 4, 5, 6, 7, 8, 9));
        int[] due = {8, 7, 6, 8, 5, 7, 4, 6, 8, 3, 5, 7, 2, 4, 6, 8, 1, 3, 5, 7, 0, 2, 4, 6, 8};
        for (int turn = 0; turn < due.length; turn++) {
            Due.due("bestAgain(0, 0) after " + turn + " jokes", x.bestAgain(0, 0), due[turn]);
            Due.perform(x, 0, due[turn], 0);
        }
        JesterUnion dull = Due.union(Due.row(9), Due.row(1, 9));
        for (int turn = 0; turn < 4; turn++) {
            Due.due("the most wit while it does better", dull.bestAgain(0, 0), 1);
            Due.perform(dull, 0, 1, 0);
        }
        Due.due("the least wit when both do as well", dull.bestAgain(0, 0), 0);
        Due.perform(dull, 0, 1, 0);
        Due.due("the least wit when it does better", dull.bestAgain(0, 0), 0);
    }

    private static void promise18TheSame() {
        Due.promise(18, "Returns the same by a second way");
        JesterUnion x = Due.union(Due.row(5), Due.row(5, 7, 7, 9));
        Due.due("the most wit", x.bestAgain(0, 0), 3);
        Due.perform(x, 0, 3, 0);
        Due.due("of three with 12 laughs the lowest", x.bestAgain(0, 0), 1);
        Due.perform(x, 0, 1, 0);
        Due.due("of two with 12 laughs the lowest", x.bestAgain(0, 0), 2);
        Due.perform(x, 0, 2, 0);
        Due.due("with 12 laughs alone", x.bestAgain(0, 0), 3);
        Due.perform(x, 0, 3, 0);
        Due.due("of four with 10 laughs the lowest", x.bestAgain(0, 0), 0);
        JesterUnion full = Due.full(5, 8);
        full.patent(5, 0, 1);
        Due.due("the second of twelve", full.bestAgain(0, 3), 1);
        for (int joke = 1; joke < 11; joke++) {
            Due.perform(full, 0, joke, 3);
        }
        Due.due("the last of twelve", full.bestAgain(0, 3), 11);
        Due.due("the first of twelve", full.bestAgain(5, 3), 0);
    }

    private static void promise18None() {
        Due.promise(18, "NONE if there is no such fool or throne");
        JesterUnion x = Due.full(5, 5);
        x.exempt(0, 1);
        for (int fool : Due.row(DEEP, -1, 6, FAR)) {
            Due.dueNone("bestAgain(" + fool + ", 0)", x.bestAgain(fool, 0));
            Due.dueNone("bestAgain(" + fool + ", 3)", x.bestAgain(fool, 3));
        }
        for (int throne : Due.row(DEEP, -1, 4, FAR)) {
            Due.dueNone("bestAgain(0, " + throne + ")", x.bestAgain(0, throne));
            Due.dueNone("bestAgain(5, " + throne + ")", x.bestAgain(5, throne));
        }
        Due.due("bestAgain(0, 1)", x.bestAgain(0, 1), 0);
        Due.due("bestAgain(5, 3)", x.bestAgain(5, 3), 0);
        x = new JesterUnion();
        Due.dueNone("without fools", x.bestAgain(0, 0));
        x.joke(5);
        Due.dueNone("with a joke alone", x.bestAgain(0, 0));
    }

    private static void promise18Nothing() {
        Due.promise(18, "NOTHING if there is none with which there would be a laugh");
        JesterUnion x = Due.union(Due.row(1, 2), Due.row());
        Due.due("without jokes", x.bestAgain(0, 0), JesterUnion.NOTHING);
        x.joke(1);
        Due.due("with 2 laughs", x.bestAgain(0, 0), 0);
        x.exempt(0, 1);
        Due.due("at a throne that is exempt", x.bestAgain(0, 0), JesterUnion.NOTHING);
        x.exempt(0, 0);
        Due.perform(x, 0, 0, 0);
        Due.due("with 0 laughs", x.bestAgain(0, 0), JesterUnion.NOTHING);
        Due.due("with 1 laugh", x.bestAgain(1, 0), 0);
        x.patent(0, 0, 1);
        Due.due("patented by another", x.bestAgain(1, 0), JesterUnion.NOTHING);
        x.pass(1);
        Due.due("when it has ended", x.bestAgain(1, 0), 0);
        Due.perform(x, 0, 0, 0);
        Due.due("below 0 laughs", x.bestAgain(0, 0), JesterUnion.NOTHING);
    }

    // ---- promises 19 and 20

    private static void promise19NextEnd() {
        Due.promise(19, "Returns the hour at which the next patent ends: joke by joke");
        JesterUnion x = Due.full(5, 5);
        x.patent(0, 5, 6);
        Due.due("the only one", x.ends(), 6);
        x.patent(1, 0, 7);
        x.patent(2, 11, 7);
        Due.due("with two an hour later", x.ends(), 6);
        x.patent(3, 10, 5);
        Due.due("with one an hour earlier", x.ends(), 5);
        x.pass(4);
        Due.due("in its last hour", x.ends(), 5);
        x.pass(1);
        Due.due("when it has ended", x.ends(), 6);
        x.pass(1);
        Due.due("of two that end at once", x.ends(), 7);
    }

    private static void promise19Nothing() {
        Due.promise(19, "NOTHING if no patent holds");
        JesterUnion x = Due.union(Due.row(9), Due.row());
        Due.due("without jokes", x.ends(), JesterUnion.NOTHING);
        x.joke(9);
        Due.due("without patents", x.ends(), JesterUnion.NOTHING);
        x.patent(0, 0, 1);
        Due.due("for 1 hour", x.ends(), 1);
        x.pass(1);
        Due.due("when it has ended", x.ends(), JesterUnion.NOTHING);
        for (int throne = 0; throne < 3; throne++) {
            Due.perform(x, 0, 0, throne);
        }
        x.patent(0, 0, 48);
        Due.due("for 48 hours", x.ends(), 49);
        x.pass(24);
        x.pass(23);
        Due.due("in the last of them", x.ends(), 49);
        x.pass(1);
        Due.due("when they are over", x.ends(), JesterUnion.NOTHING);
    }

    private static void promise20InTheirOrder() {
        Due.promise(20, "by the hours at which patents end, in their order");
        JesterUnion x = Due.full(5, 5);
        x.patent(0, 5, 6);
        Due.due("the only one", x.endsAgain(), 6);
        x.patent(1, 0, 7);
        x.patent(2, 11, 7);
        Due.due("with two an hour later", x.endsAgain(), 6);
        x.patent(3, 10, 5);
        Due.due("with one an hour earlier", x.endsAgain(), 5);
        x.pass(4);
        Due.due("in its last hour", x.endsAgain(), 5);
        x.pass(1);
        Due.due("when it has ended", x.endsAgain(), 6);
        x.pass(1);
        Due.due("of two that end at once", x.endsAgain(), 7);
    }

    private static void promise20Nothing() {
        Due.promise(20, "NOTHING if no patent holds");
        JesterUnion x = Due.union(Due.row(9), Due.row());
        Due.due("without jokes", x.endsAgain(), JesterUnion.NOTHING);
        x.joke(9);
        Due.due("without patents", x.endsAgain(), JesterUnion.NOTHING);
        x.patent(0, 0, 1);
        Due.due("for 1 hour", x.endsAgain(), 1);
        x.pass(1);
        Due.due("when it has ended", x.endsAgain(), JesterUnion.NOTHING);
        for (int throne = 0; throne < 3; throne++) {
            Due.perform(x, 0, 0, throne);
        }
        x.patent(0, 0, 48);
        Due.due("for 48 hours", x.endsAgain(), 49);
        x.pass(24);
        x.pass(23);
        Due.due("in the last of them", x.endsAgain(), 49);
        x.pass(1);
        Due.due("when they are over", x.endsAgain(), JesterUnion.NOTHING);
    }

    // ---- promise 21

    private static void promise21WithoutBookings() {
        Due.promise(21, "if all bookings that wait were carried out");
        JesterUnion x = new JesterUnion();
        Due.due("without fools", x.forecast(), 0);
        x.fool(5);
        x.joke(5);
        Due.due("without bookings", x.forecast(), 0);
        x.book(0, 0, 0, 99);
        Due.due("with one", x.forecast(), 10);
        x.book(0, 0, 1, 98);
        Due.due("with two", x.forecast(), 20);
        Due.due("asked twice", x.forecast(), 20);
        Due.due("they wait still", x.account(2), 2);
        Due.due("it is still", x.account(3), 0);
        x.next();
        Due.due("with one again", x.forecast(), 10);
        x.next();
        Due.due("without bookings again", x.forecast(), 0);
    }

    private static void promise21BelowZero() {
        Due.promise(21, "Returns by how much, below 0 for less");
        JesterUnion x = Due.union(Due.row(1, 1), Due.row(4, 3, 5, 5));
        x.book(0, 0, 0, 1);
        Due.due("5 for 5 laughs", x.forecast(), 5);
        x.undo();
        x.book(0, 1, 0, 1);
        Due.due("-3 for 4 laughs", x.forecast(), -3);
        Due.leave(x, 0, 3);
        Due.due("-3 with 3 coins", x.forecast(), -3);
        x.patent(0, 0, 1);
        Due.due("-2 with 2 coins", x.forecast(), -2);
        x.insure(0);
        Due.due("0 with 0 coins, insured", x.forecast(), 0);
        x = Due.union(Due.row(1, 1), Due.row(4, 3, 5, 5));
        Due.leave(x, 0, 0);
        x.book(0, 1, 0, 1);
        Due.due("0 with 0 coins", x.forecast(), 0);
    }

    private static void promise21Patents() {
        Due.terms(21, "What the forecast tells is as if nothing but bookings happened, and by their hours patents end");
        JesterUnion x = Due.union(Due.row(5, 5), Due.row(5));
        x.book(1, 0, 0, 3);
        x.patent(0, 0, 3);
        Due.due("in the hour in which it ends", x.forecast(), 10);
        x.undo();
        x.patent(0, 0, 4);
        Due.due("an hour before", x.forecast(), 0);
        x.book(0, 0, 1, 3);
        Due.due("with one by the other, who may", x.forecast(), 10);
        x.exempt(1, 1);
        Due.due("at a throne that is exempt", x.forecast(), 0);
        Due.due("the patent holds still", x.ends(), 4);
    }

    private static void promise21Slips() {
        Due.terms(21, "or, if insured, is so for 1 slip less");
        JesterUnion x = Due.union(Due.row(1), Due.row(3));
        for (int hour = 1; hour <= 4; hour++) {
            x.book(0, 0, hour - 1, hour);
        }
        Due.due("four slips with 10 coins", x.forecast(), -10);
        x.insure(0);
        Due.due("one of them insured, with 8 coins", x.forecast(), -8);
        x.insure(0);
        Due.due("two of them insured, with 6 coins", x.forecast(), -6);
        x.insure(0);
        Due.due("three of them insured, with 4 coins", x.forecast(), -3);
        Due.due("insured still", x.foolOf(0, 3), 3);
    }

    private static void promise21Lost() {
        Due.terms(21, "What a throne paid is told with what was lost, and the forecast without it");
        JesterUnion x = Due.union(Due.row(9), Due.row(9, 8, 9));
        for (int throne = 0; throne < 4; throne++) {
            Due.perform(x, 0, 0, throne);
        }
        x.book(0, 1, 0, 1);
        Due.due("82 and 17 coins", x.forecast(), 17);
        x.undo();
        x.book(0, 2, 0, 1);
        Due.due("82 and 18 coins", x.forecast(), 17);
        x.book(0, 1, 0, 2);
        Due.due("82 and 35 coins", x.forecast(), 17);
        x.next();
        Due.due("99 and 17 coins", x.forecast(), 0);
        Due.due("told with what was lost", x.throneOf(0, 2), 36);
    }

    private static void promise21Fines() {
        Due.promise(21, "Returns by how much the coins of all fools would be more");
        JesterUnion x = Due.union(Due.row(9, 1), Due.row(9, 8, 1));
        x.book(1, 2, 0, 1);
        x.patent(0, 2, 9);
        Due.due("a fine stays among the fools", x.forecast(), 0);
        for (int throne = 0; throne < 4; throne++) {
            Due.perform(x, 0, 0, throne);
        }
        Due.due("one who has 77 coins gets it", x.forecast(), 0);
        x.book(0, 1, 0, 0);
        x.next();
        x.book(0, 1, 1, 0);
        Due.due("a fine is lost to one who has 99 then", x.forecast(), 5 - 2);
        x.next();
        Due.due("a fine is lost to one who has 99", x.forecast(), -2);
    }

    private static void promise21Order() {
        Due.terms(21, "They are carried out in an order: the earliest hour first");
        JesterUnion x = Due.union(Due.row(3, 1), Due.row(2));
        x.book(1, 0, 0, 2);
        x.book(0, 0, 0, 1);
        Due.due("5 laughs first, then a slip", x.forecast(), 5 - 3);
        x = Due.union(Due.row(3, 1), Due.row(2));
        x.book(0, 0, 0, 2);
        x.book(1, 0, 0, 1);
        Due.due("a slip first, then another", x.forecast(), -3 - 3);
    }

    private static void promise21TenBookings() {
        Due.terms(21, "at most 10 wait");
        JesterUnion x = Due.full(5, 5);
        for (int hour = 0; hour < 10; hour++) {
            x.book(hour % 6, hour, 0, hour);
        }
        Due.due("with all ten", x.forecast(), 100);
        x.undo();
        Due.due("with nine", x.forecast(), 90);
    }

    // ---- promise 22

    private static void dueRanks(String call, JesterUnion x, int... fools) {
        for (int place = 0; place < fools.length; place++) {
            Due.due(call + ", ranked(" + place + ")", x.ranked(place), fools[place]);
        }
        Due.dueNone(call + ", no place more", x.ranked(fools.length));
    }

    private static void promise22Order() {
        Due.promise(22, "the most first, of several the one with more coins, then the lowest");
        JesterUnion x = Due.union(Due.row(9, 9, 9), Due.row(3, 3, 4, 9));
        dueRanks("alike", x, 0, 1, 2);
        x.patent(0, 0, 1);
        dueRanks("one coin less", x, 1, 2, 0);
        x.patent(1, 1, 1);
        dueRanks("two with one coin less", x, 2, 0, 1);
        Due.perform(x, 1, 1, 0);
        dueRanks("one with a tear", x, 1, 2, 0);
        Due.perform(x, 0, 2, 0);
        dueRanks("one with a tear more", x, 0, 1, 2);
        Due.perform(x, 2, 3, 0);
        x.audit(2);
        Due.due("the tears of fool 2", x.foolOf(2, 2), 1);
        dueRanks("one tear and more coins", x, 0, 2, 1);
    }

    private static void promise22None() {
        Due.promise(22, "NONE if there is no such place");
        JesterUnion x = new JesterUnion();
        Due.dueNone("without fools", x.ranked(0));
        for (int fools = 1; fools <= 6; fools++) {
            x.fool(5);
            Due.due("the last of " + fools, x.ranked(fools - 1), fools - 1);
            for (int place : Due.row(DEEP, -1, fools, FAR)) {
                Due.dueNone("ranked(" + place + ") of " + fools, x.ranked(place));
            }
        }
    }

    // ---- promise 23

    private static void dueStalest(String call, JesterUnion x, int... jokes) {
        for (int place = 0; place < jokes.length; place++) {
            Due.due(call + ", stalest(" + place + ")", x.stalest(place), jokes[place]);
        }
        Due.dueNone(call + ", no place more", x.stalest(jokes.length));
    }

    private static void promise23Order() {
        Due.promise(23, "the most first, of several the one with more wit, then the lowest");
        JesterUnion x = Due.union(Due.row(1), Due.row(5, 6, 5));
        dueStalest("never told", x, 1, 0, 2);
        Due.perform(x, 0, 2, 0);
        dueStalest("one told once", x, 2, 1, 0);
        Due.perform(x, 0, 0, 3);
        dueStalest("two told once", x, 0, 2, 1);
        Due.perform(x, 0, 1, 1);
        dueStalest("three told once", x, 1, 0, 2);
        Due.perform(x, 0, 2, 3);
        dueStalest("one told once more", x, 2, 1, 0);
        x.undo();
        dueStalest("three told once again", x, 1, 0, 2);
    }

    private static void promise23None() {
        Due.promise(23, "NONE if there is no such place");
        JesterUnion x = new JesterUnion();
        Due.dueNone("without jokes", x.stalest(0));
        for (int jokes = 1; jokes <= 12; jokes++) {
            x.joke(5);
            Due.due("the last of " + jokes, x.stalest(jokes - 1), jokes - 1);
            for (int place : Due.row(DEEP, -1, jokes, FAR)) {
                Due.dueNone("stalest(" + place + ") of " + jokes, x.stalest(place));
            }
        }
    }
}
