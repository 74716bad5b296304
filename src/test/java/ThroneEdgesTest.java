/** Promises 9 to 16, a test for each sentence that names a boundary: just inside it, and just outside. */
public final class ThroneEdgesTest {
    private static final int FAR = Integer.MAX_VALUE;
    private static final int DEEP = Integer.MIN_VALUE;

    public static void main(String[] args) {
        promise9HowMany();
        promise9None();
        promise9Neither();
        promise9SoAlready();
        promise10None();
        promise10What();
        promise10Exempt();
        promise10Told();
        promise10Coins();
        promise10Bookings();
        promise11None();
        promise11HowOften();
        promise12Hours();
        promise12Place();
        promise12None();
        promise12OutOfRange();
        promise12HourPast();
        promise12Exempt();
        promise12Patented();
        promise12HourBooked();
        promise12Full();
        promise12Order();
        promise13NotTold();
        promise13NothingWaits();
        promise14Hours();
        promise14Patents();
        promise14OutOfRange();
        promise14NextBooking();
        promise15Place();
        promise15None();
        promise15What();
        promise16Zero();
        promise16None();
        promise16Now();
        Due.finish();
    }

    // ---- promise 9

    private static void promise9HowMany() {
        Due.promise(9, "Returns how many thrones are exempt then");
        JesterUnion x = new JesterUnion();
        for (int throne = 0; throne < 4; throne++) {
            Due.due("exempt(" + throne + ", 1)", x.exempt(throne, 1), throne + 1);
        }
        for (int throne = 0; throne < 4; throne++) {
            Due.due("exempt(" + throne + ", 0)", x.exempt(throne, 0), 3 - throne);
        }
    }

    private static void promise9None() {
        Due.promise(9, "NONE if there is no such throne");
        JesterUnion x = new JesterUnion();
        for (int throne : Due.row(DEEP, -1, 4, FAR)) {
            for (int isExempt : Due.row(-1, 0, 1, 2)) {
                Due.dueNone("exempt(" + throne + ", " + isExempt + ")", x.exempt(throne, isExempt));
            }
        }
        Due.due("throne 0", x.exempt(0, 1), 1);
        Due.due("throne 3", x.exempt(3, 1), 2);
    }

    private static void promise9Neither() {
        Due.promise(9, "BAD if isExempt is neither");
        JesterUnion x = new JesterUnion();
        for (int isExempt : Due.row(DEEP, -1, 2, FAR)) {
            Due.dueBad("exempt(3, " + isExempt + ")", x.exempt(3, isExempt));
        }
        Due.due("no reason", x.reason(false), JesterUnion.NOTHING);
        Due.due("exempt(3, 1)", x.exempt(3, 1), 1);
        for (int isExempt : Due.row(-1, 2)) {
            Due.dueBad("exempt(3, " + isExempt + ") when it is", x.exempt(3, isExempt));
        }
        Due.due("exempt(3, 0)", x.exempt(3, 0), 0);
    }

    private static void promise9SoAlready() {
        Due.promise(9, "REFUSED for the reason 9");
        JesterUnion x = new JesterUnion();
        for (int throne = 0; throne < 4; throne++) {
            Due.dueRefused("it is not", x, x.exempt(throne, 0), 9, 0);
            x.exempt(throne, 1);
            Due.dueRefused("it is", x, x.exempt(throne, 1), 9, 1);
            Due.due("it is not then", x.exempt(throne, 0), 0);
            Due.dueRefused("it is not again", x, x.exempt(throne, 0), 9, 0);
        }
    }

    // ---- promise 10

    private static void promise10None() {
        Due.promise(10, "NONE if there is no such throne");
        JesterUnion x = new JesterUnion();
        for (int throne : Due.row(DEEP, -1, 4, FAR)) {
            for (int what = -1; what <= 4; what++) {
                Due.dueNone("throneOf(" + throne + ", " + what + ")", x.throneOf(throne, what));
            }
        }
        Due.due("throneOf(0, 0)", x.throneOf(0, 0), 0);
        Due.due("throneOf(3, 0)", x.throneOf(3, 0), 0);
    }

    private static void promise10What() {
        Due.promise(10, "BAD if what is not from 0 to 3");
        JesterUnion x = new JesterUnion();
        for (int throne = 0; throne < 4; throne++) {
            for (int what : Due.row(DEEP, -1, 4, FAR)) {
                Due.dueBad("throneOf(" + throne + ", " + what + ")", x.throneOf(throne, what));
            }
            Due.due("the first, 0", x.throneOf(throne, 0), 0);
            Due.due("the last, 3", x.throneOf(throne, 3), 0);
        }
    }

    private static void promise10Exempt() {
        Due.promise(10, "0 for 1 if it is exempt, and 0 otherwise");
        JesterUnion x = new JesterUnion();
        Due.due("at first", x.throneOf(2, 0), 0);
        x.exempt(2, 1);
        Due.due("exempt", x.throneOf(2, 0), 1);
        Due.due("the one before", x.throneOf(1, 0), 0);
        Due.due("the one behind", x.throneOf(3, 0), 0);
        x.exempt(2, 0);
        Due.due("not exempt again", x.throneOf(2, 0), 0);
    }

    private static void promise10Told() {
        Due.promise(10, "1 for the jokes told there so far");
        JesterUnion x = Due.union(Due.row(5, 1), Due.row(5, 1));
        Due.perform(x, 0, 0, 3);
        Due.perform(x, 1, 1, 3);
        Due.due("two, of which one is a slip", x.throneOf(3, 1), 2);
        Due.due("none at the one before", x.throneOf(2, 1), 0);
        x.book(0, 0, 3, 1);
        x.exempt(3, 1);
        x.next();
        Due.due("none more when it is exempt", x.throneOf(3, 1), 2);
        x.exempt(3, 0);
        x.book(0, 0, 3, 2);
        x.patent(1, 0, 5);
        x.next();
        Due.due("none more when it is patented by another", x.throneOf(3, 1), 2);
    }

    private static void promise10Coins() {
        Due.promise(10, "2 for the coins that it paid so far");
        JesterUnion x = Due.union(Due.row(1, 9), Due.row(4, 3, 9));
        Due.perform(x, 0, 1, 0);
        Due.due("none for 4 laughs", x.throneOf(0, 2), 0);
        Due.perform(x, 0, 0, 0);
        Due.due("5 for 5 laughs", x.throneOf(0, 2), 5);
        Due.perform(x, 1, 2, 0);
        Due.due("18 more for 18 laughs", x.throneOf(0, 2), 23);
        Due.due("none at another", x.throneOf(1, 2), 0);
        x.insure(0);
        Due.perform(x, 0, 1, 1);
        Due.due("none for a slip for which the fool is insured", x.throneOf(1, 2), 0);
    }

    private static void promise10Bookings() {
        Due.promise(10, "3 for the bookings for it that wait");
        JesterUnion x = Due.union(Due.row(5, 5), Due.row(5));
        x.book(0, 0, 2, 1);
        x.book(1, 0, 2, 1);
        x.book(1, 0, 3, 2);
        Due.due("two", x.throneOf(2, 3), 2);
        Due.due("one at another", x.throneOf(3, 3), 1);
        Due.due("none at the first", x.throneOf(0, 3), 0);
        x.next();
        Due.due("one is carried out", x.throneOf(2, 3), 1);
        x.next();
        Due.due("both are carried out", x.throneOf(2, 3), 0);
        Due.due("one at another still", x.throneOf(3, 3), 1);
    }

    // ---- promise 11

    private static void promise11None() {
        Due.promise(11, "NONE if there is no such joke or throne");
        JesterUnion x = Due.full(5, 5);
        for (int joke : Due.row(DEEP, -1, 12, FAR)) {
            Due.dueNone("told(" + joke + ", 0)", x.told(joke, 0));
            Due.dueNone("told(" + joke + ", 4)", x.told(joke, 4));
        }
        for (int throne : Due.row(DEEP, -1, 4, FAR)) {
            Due.dueNone("told(0, " + throne + ")", x.told(0, throne));
            Due.dueNone("told(11, " + throne + ")", x.told(11, throne));
        }
        Due.due("told(0, 0)", x.told(0, 0), 0);
        Due.due("told(11, 3)", x.told(11, 3), 0);
        x = new JesterUnion();
        Due.dueNone("without jokes", x.told(0, 0));
    }

    private static void promise11HowOften() {
        Due.promise(11, "Returns how often");
        JesterUnion x = Due.full(5, 5);
        Due.perform(x, 0, 11, 3);
        Due.perform(x, 5, 11, 3);
        Due.perform(x, 0, 0, 0);
        Due.due("the last joke at the last throne", x.told(11, 3), 2);
        Due.due("the first joke at the first throne", x.told(0, 0), 1);
        Due.due("the last joke at the first throne", x.told(11, 0), 0);
        Due.due("the first joke at the last throne", x.told(0, 3), 0);
        Due.due("the joke before", x.told(10, 3), 0);
        Due.due("the throne before", x.told(11, 2), 0);
    }

    // ---- promise 12

    private static void promise12Hours() {
        Due.promise(12, "the hour, 0 to 99");
        JesterUnion x = Due.union(Due.row(5), Due.row(5));
        Due.dueBad("the hour -1", x.book(0, 0, 0, -1));
        Due.due("the hour 0", x.book(0, 0, 0, 0), 0);
        Due.due("the hour 99", x.book(0, 0, 0, 99), 1);
        Due.dueBad("the hour 100", x.book(0, 0, 0, 100));
        Due.due("the hour of the first", x.booking(0, 3), 0);
        Due.due("the hour of the last", x.booking(1, 3), 99);
        x.next();
        x.next();
        Due.due("it is", x.account(3), 99);
        Due.due("the hour 99 when it is", x.book(0, 0, 0, 99), 0);
        x.next();
        x.pass(1);
        Due.dueBad("the hour 100 when it is", x.book(0, 0, 0, 100));
        Due.dueRefused("the hour 99 when it is past", x, x.book(0, 0, 0, 99), 2, 100);
    }

    private static void promise12Place() {
        Due.promise(12, "Returns its place in the order, from 0");
        JesterUnion x = Due.full(5, 5);
        for (int place = 0; place < 5; place++) {
            Due.due("behind all", x.book(place, 0, 0, 50), place);
        }
        for (int turn = 0; turn < 4; turn++) {
            Due.due("ahead of all", x.book(0, 0, 0, 40 - turn), 0);
        }
        Due.due("the tenth, behind all", x.book(5, 0, 0, 50), 9);
        x.undo();
        Due.due("the tenth, ahead of the last", x.book(0, 0, 0, 49), 4);
    }

    private static void promise12None() {
        Due.promise(12, "NONE if there is no such fool, joke or throne");
        JesterUnion x = Due.full(5, 5);
        x.pass(1);
        for (int hour : Due.row(-1, 0, 1, 100)) {
            for (int fool : Due.row(DEEP, -1, 6, FAR)) {
                Due.dueNone("fool " + fool + " in the hour " + hour, x.book(fool, 0, 0, hour));
            }
            for (int joke : Due.row(DEEP, -1, 12, FAR)) {
                Due.dueNone("joke " + joke + " in the hour " + hour, x.book(0, joke, 0, hour));
            }
            for (int throne : Due.row(DEEP, -1, 4, FAR)) {
                Due.dueNone("throne " + throne + " in the hour " + hour, x.book(0, 0, throne, hour));
            }
        }
        Due.due("the first of all", x.book(0, 0, 0, 1), 0);
        Due.due("the last of all", x.book(5, 11, 3, 1), 1);
    }

    private static void promise12OutOfRange() {
        Due.promise(12, "BAD if the hour is out of range");
        JesterUnion x = Due.union(Due.row(5, 5), Due.row(5, 5));
        x.pass(3);
        x.exempt(1, 1);
        x.patent(1, 1, 9);
        for (int hour = 50; hour < 60; hour++) {
            x.book(0, 0, 0, hour);
        }
        for (int hour : Due.row(DEEP, -1, 100, FAR)) {
            Due.dueBad("the hour " + hour, x.book(1, 0, 0, hour));
            Due.dueBad("ahead of the reason 4, the hour " + hour, x.book(1, 0, 1, hour));
            Due.dueBad("ahead of the reason 3, the hour " + hour, x.book(0, 1, 0, hour));
        }
        Due.due("no reason", x.reason(false), JesterUnion.NOTHING);
    }

    private static void promise12HourPast() {
        Due.promise(12, "REFUSED for the reason 2");
        JesterUnion x = Due.union(Due.row(5, 5), Due.row(5, 5));
        x.pass(1);
        Due.dueRefused("the hour 0 in the hour 1", x, x.book(0, 0, 0, 0), 2, 1);
        Due.due("the hour that it is", x.book(0, 0, 0, 1), 0);
        x.next();
        x.pass(9);
        Due.dueRefused("an hour before", x, x.book(0, 0, 0, 9), 2, 10);
        Due.due("the hour that it is, once more", x.book(0, 0, 0, 10), 0);
        Due.due("an hour behind", x.book(0, 0, 0, 11), 1);
        x.exempt(1, 1);
        x.patent(1, 1, 2);
        Due.dueRefused("2 is ahead of 4", x, x.book(0, 0, 1, 9), 2, 10);
        Due.dueRefused("2 is ahead of 3", x, x.book(0, 1, 0, 9), 2, 10);
        for (int hour = 20; hour < 28; hour++) {
            x.book(0, 0, 0, hour);
        }
        Due.due("ten wait", x.account(2), 10);
        Due.dueRefused("2 is ahead of 1", x, x.book(0, 0, 0, 9), 2, 10);
    }

    private static void promise12Exempt() {
        Due.promise(12, "REFUSED for the reason 2, 4");
        JesterUnion x = Due.union(Due.row(5, 5), Due.row(5, 5));
        x.exempt(1, 1);
        x.exempt(3, 1);
        Due.dueRefused("throne 1", x, x.book(0, 0, 1, 0), 4, 1);
        Due.dueRefused("throne 3", x, x.book(0, 0, 3, 0), 4, 3);
        Due.due("throne 0", x.book(0, 0, 0, 0), 0);
        Due.due("throne 2", x.book(0, 0, 2, 1), 1);
        x.patent(1, 1, 9);
        Due.dueRefused("4 is ahead of 3", x, x.book(0, 1, 1, 5), 4, 1);
        Due.dueRefused("4 is ahead of 5", x, x.book(0, 0, 1, 0), 4, 1);
        for (int hour = 20; hour < 28; hour++) {
            x.book(0, 0, 0, hour);
        }
        Due.dueRefused("4 is ahead of 1", x, x.book(1, 0, 3, 50), 4, 3);
        x.next();
        x.exempt(1, 0);
        Due.due("when it is not exempt any more", x.book(0, 0, 1, 5), 1);
    }

    private static void promise12Patented() {
        Due.promise(12, "REFUSED for the reason 2, 4, 3");
        JesterUnion x = Due.union(Due.row(5, 5), Due.row(5, 5));
        x.patent(1, 0, 3);
        Due.dueRefused("by another", x, x.book(0, 0, 0, 0), 3, 1);
        Due.dueRefused("by another, for the hour in which it ends", x, x.book(0, 0, 0, 3), 3, 1);
        Due.due("by that fool", x.book(1, 0, 0, 2), 0);
        Due.due("another joke", x.book(0, 1, 0, 2), 0);
        x.pass(2);
        Due.dueRefused("by another, in its last hour", x, x.book(0, 0, 0, 3), 3, 1);
        Due.dueRefused("3 is ahead of 5", x, x.book(0, 0, 0, 2), 3, 1);
        for (int hour = 20; hour < 28; hour++) {
            x.book(0, 1, 0, hour);
        }
        Due.dueRefused("3 is ahead of 1", x, x.book(0, 0, 0, 50), 3, 1);
        x.next();
        x.next();
        x.pass(1);
        Due.due("when it has ended", x.book(0, 0, 0, 3), 0);
    }

    private static void promise12HourBooked() {
        Due.promise(12, "REFUSED for the reason 2, 4, 3, 5");
        JesterUnion x = Due.union(Due.row(5, 5), Due.row(5, 5, 5));
        x.book(0, 2, 0, 6);
        Due.dueRefused("the same once more", x, x.book(0, 2, 0, 6), 5, 2);
        Due.dueRefused("another joke and throne", x, x.book(0, 1, 3, 6), 5, 2);
        Due.due("another fool", x.book(1, 1, 3, 6), 1);
        Due.dueRefused("the joke of that fool", x, x.book(1, 2, 0, 6), 5, 1);
        Due.due("an hour before", x.book(0, 2, 0, 5), 0);
        Due.due("an hour behind", x.book(0, 2, 0, 7), 3);
        for (int hour = 20; hour < 26; hour++) {
            x.book(0, 0, 0, hour);
        }
        Due.due("ten wait", x.account(2), 10);
        Due.dueRefused("5 is ahead of 1", x, x.book(0, 0, 0, 6), 5, 2);
        x.next();
        x.next();
        Due.due("it is", x.account(3), 6);
        Due.due("when that booking is carried out", x.book(0, 0, 0, 6), 0);
    }

    private static void promise12Full() {
        Due.promise(12, "REFUSED for the reason 2, 4, 3, 5 or 1");
        JesterUnion x = Due.union(Due.row(5, 5), Due.row(5));
        for (int hour = 0; hour < 9; hour++) {
            x.book(0, 0, 0, hour);
        }
        Due.due("the tenth", x.book(1, 0, 0, 0), 1);
        Due.dueRefused("the eleventh", x, x.book(1, 0, 0, 1), 1, 10);
        Due.due("ten wait", x.account(2), 10);
        Due.due("the first of them is as it was", x.booking(0, 0), 0);
        Due.due("the last of them is as it was", x.booking(9, 3), 8);
        x.next();
        Due.due("when one is carried out", x.book(1, 0, 0, 50), 9);
        Due.dueRefused("the eleventh again", x, x.book(1, 0, 0, 51), 1, 10);
    }

    private static void dueOrder(String call, JesterUnion x, String want) {
        x.tellBookings();
        Due.dueText(call, Due.line(x), want);
    }

    private static void promise12Order() {
        Due.terms(12, "the earliest hour first, of several the joke with the most wit, then the lowest fool");
        JesterUnion x = Due.union(Due.row(5, 5, 5), Due.row(4, 5, 5, 9));
        Due.due("the first", x.book(1, 1, 0, 6), 0);
        Due.due("an hour behind, with more wit", x.book(0, 3, 0, 7), 1);
        Due.due("an hour before, with less wit and a higher fool", x.book(2, 0, 0, 5), 0);
        dueOrder("by hours", x, "2:0@0=5 1:1@0=6 0:3@0=7");
        Due.due("the same hour, one wit less and a lower fool", x.book(0, 0, 0, 6), 2);
        dueOrder("by wit", x, "2:0@0=5 1:1@0=6 0:0@0=6 0:3@0=7");
        Due.due("the same hour and wit, and a higher fool", x.book(2, 2, 0, 6), 2);
        x.undo();
        x.undo();
        Due.due("the same hour and wit, a lower fool and a higher joke", x.book(0, 2, 0, 6), 1);
        dueOrder("by fools", x, "2:0@0=5 0:2@0=6 1:1@0=6 0:3@0=7");
        Due.due("the same hour and the same joke", x.book(2, 1, 0, 6), 3);
        dueOrder("by fools again", x, "2:0@0=5 0:2@0=6 1:1@0=6 2:1@0=6 0:3@0=7");
        x.undo();
        Due.due("the same hour, one wit less and a higher fool", x.book(2, 0, 0, 6), 3);
        x.undo();
        Due.due("the same hour, more wit and a higher fool", x.book(2, 3, 0, 6), 1);
    }

    // ---- promise 13

    private static void promise13NotTold() {
        Due.promise(13, "Returns the laughs, 0 if the joke is not told");
        JesterUnion x = Due.union(Due.row(9, 5), Due.row(9, 1));
        Due.due("18 laughs, the most", Due.perform(x, 0, 0, 0), 18);
        Due.due("6 laughs", Due.perform(x, 1, 1, 0), 6);
        Due.due("4 laughs, a slip", Due.perform(x, 1, 1, 0), 4);
        Due.due("2 laughs", Due.perform(x, 1, 1, 0), 2);
        Due.due("0 laughs, though it is told", Due.perform(x, 1, 1, 0), 0);
        Due.due("it was told", x.told(1, 0), 4);
        x.book(1, 0, 1, 1);
        x.book(1, 0, 2, 2);
        x.patent(0, 0, 2);
        x.exempt(2, 1);
        Due.due("patented by another", x.next(), 0);
        Due.due("at a throne that is exempt", x.next(), 0);
        Due.due("it was not told", x.jokeOf(0, 3), 1);
    }

    private static void promise13NothingWaits() {
        Due.promise(13, "REFUSED for the reason 11");
        JesterUnion x = Due.union(Due.row(5, 5), Due.row(5));
        Due.dueRefused("none was carried out", x, x.next(), 11, 0);
        x.book(0, 0, 0, 1);
        Due.due("one waits", x.next(), 10);
        Due.dueRefused("one was carried out", x, x.next(), 11, 1);
        x.book(0, 0, 0, 2);
        x.book(1, 0, 1, 3);
        x.patent(1, 0, 1);
        x.exempt(1, 1);
        x.next();
        x.next();
        Due.dueRefused("those that were not told, too", x, x.next(), 11, 3);
        x.undo();
        x.next();
        Due.dueRefused("one was undone and carried out anew", x, x.next(), 11, 3);
    }

    // ---- promise 14

    private static void promise14Hours() {
        Due.promise(14, "how many, 1 to 24");
        JesterUnion x = new JesterUnion();
        Due.dueBad("0", x.pass(0));
        Due.due("1", x.pass(1), 0);
        Due.due("the hour", x.account(3), 1);
        Due.due("24", x.pass(24), 0);
        Due.due("the hour then", x.account(3), 25);
        Due.dueBad("25", x.pass(25));
        Due.due("the hour still", x.account(3), 25);
        for (int turn = 0; turn < 4; turn++) {
            x.pass(24);
        }
        Due.due("beyond the hours of bookings", x.account(3), 121);
    }

    private static void promise14Patents() {
        Due.promise(14, "Returns how many patents end by that");
        JesterUnion x = Due.union(Due.row(9, 9), Due.row(5, 5, 5, 5));
        x.patent(0, 0, 4);
        x.patent(0, 1, 5);
        x.patent(1, 2, 5);
        x.patent(1, 3, 6);
        Due.due("up to an hour before the first ends", x.pass(3), 0);
        Due.due("up to the hour in which the first ends", x.pass(1), 1);
        Due.due("up to the hour in which two end", x.pass(1), 2);
        Due.due("up to the hour in which the last ends", x.pass(1), 1);
        Due.due("those that have ended", x.pass(1), 0);
        x.patent(0, 0, 1);
        x.patent(0, 1, 3);
        x.patent(1, 2, 4);
        Due.due("all at once that end by the third hour", x.pass(3), 2);
        x.book(0, 3, 0, 11);
        x.next();
        Due.due("not what has ended by a booking", x.pass(1), 0);
    }

    private static void promise14OutOfRange() {
        Due.promise(14, "BAD if the number is out of range");
        JesterUnion x = Due.union(Due.row(5), Due.row(5));
        x.book(0, 0, 0, 0);
        for (int hours : Due.row(DEEP, -1, 0, 25, 26, FAR)) {
            Due.dueBad("pass(" + hours + ")", x.pass(hours));
        }
        Due.due("no reason", x.reason(false), JesterUnion.NOTHING);
        Due.dueRefused("pass(1)", x, x.pass(1), 5, 0);
        Due.dueRefused("pass(24)", x, x.pass(24), 5, 0);
        x.next();
        Due.due("pass(24) then", x.pass(24), 0);
    }

    private static void promise14NextBooking() {
        Due.promise(14, "REFUSED for the reason 5, with the joke of the next booking, if this is for an hour that "
            + "would be past");
        JesterUnion x = Due.union(Due.row(5, 5), Due.row(5, 6, 5));
        x.book(0, 2, 0, 9);
        x.book(0, 0, 0, 5);
        x.book(1, 1, 0, 5);
        Due.dueRefused("an hour beyond", x, x.pass(6), 5, 1);
        Due.due("up to its hour", x.pass(5), 0);
        Due.dueRefused("an hour beyond again", x, x.pass(1), 5, 1);
        x.next();
        Due.dueRefused("an hour beyond the other of that hour", x, x.pass(1), 5, 0);
        x.next();
        Due.dueRefused("an hour beyond the last", x, x.pass(5), 5, 2);
        Due.due("an hour before the last", x.pass(3), 0);
        Due.due("up to the hour of the last", x.pass(1), 0);
        x.next();
        Due.due("when none waits", x.pass(1), 0);
    }

    // ---- promise 15

    private static void promise15Place() {
        Due.promise(15, "its place in the order, from 0");
        JesterUnion x = Due.full(5, 5);
        for (int turn = 9; turn >= 0; turn--) {
            x.book(turn % 6, turn + 2, turn % 4, 90 + turn);
        }
        for (int place = 0; place < 10; place++) {
            int[] due = {place % 6, place + 2, place % 4, 90 + place};
            for (int what = 0; what < 4; what++) {
                Due.due("booking(" + place + ", " + what + ")", x.booking(place, what), due[what]);
            }
        }
        Due.dueNone("no place more", x.booking(10, 0));
    }

    private static void promise15None() {
        Due.promise(15, "NONE if there is no such place");
        JesterUnion x = Due.union(Due.row(5), Due.row(5));
        for (int what = -1; what <= 4; what++) {
            Due.dueNone("booking(0, " + what + ") when none waits", x.booking(0, what));
        }
        x.book(0, 0, 0, 5);
        x.book(0, 0, 0, 6);
        for (int what = -1; what <= 4; what++) {
            for (int place : Due.row(DEEP, -1, 2, 10, FAR)) {
                Due.dueNone("booking(" + place + ", " + what + ")", x.booking(place, what));
            }
        }
        Due.due("the first place", x.booking(0, 3), 5);
        Due.due("the last place", x.booking(1, 3), 6);
        x.next();
        Due.dueNone("the last place when one was carried out", x.booking(1, 3));
    }

    private static void promise15What() {
        Due.promise(15, "BAD if what is not from 0 to 3");
        JesterUnion x = Due.union(Due.row(5, 5), Due.row(5, 5));
        x.book(1, 1, 2, 5);
        x.book(1, 1, 2, 6);
        for (int place = 0; place < 2; place++) {
            for (int what : Due.row(DEEP, -1, 4, FAR)) {
                Due.dueBad("booking(" + place + ", " + what + ")", x.booking(place, what));
            }
            Due.due("the first, 0", x.booking(place, 0), 1);
            Due.due("the last, 3", x.booking(place, 3), 5 + place);
        }
    }

    // ---- promise 16

    private static void promise16Zero() {
        Due.promise(16, "0 if the throne is exempt, or the joke is patented by another fool");
        JesterUnion x = Due.union(Due.row(5, 5), Due.row(5, 5));
        x.patent(0, 0, 2);
        x.exempt(1, 1);
        Due.due("exempt", x.would(0, 0, 1), 0);
        Due.due("not exempt", x.would(0, 0, 0), 10);
        Due.due("patented by another", x.would(1, 0, 0), 0);
        Due.due("patented by that fool", x.would(0, 0, 0), 10);
        Due.due("patented by none", x.would(1, 1, 0), 10);
        x.pass(1);
        Due.due("patented by another, in its last hour", x.would(1, 0, 0), 0);
        x.pass(1);
        Due.due("when it has ended", x.would(1, 0, 0), 10);
        x.exempt(1, 0);
        Due.due("not exempt any more", x.would(0, 0, 1), 10);
    }

    private static void promise16None() {
        Due.promise(16, "NONE if there is no such fool, joke or throne");
        JesterUnion x = Due.full(5, 5);
        x.exempt(0, 1);
        for (int fool : Due.row(DEEP, -1, 6, FAR)) {
            Due.dueNone("fool " + fool, x.would(fool, 0, 0));
            Due.dueNone("fool " + fool + " at another throne", x.would(fool, 11, 3));
        }
        for (int joke : Due.row(DEEP, -1, 12, FAR)) {
            Due.dueNone("joke " + joke, x.would(0, joke, 0));
            Due.dueNone("joke " + joke + " at another throne", x.would(5, joke, 3));
        }
        for (int throne : Due.row(DEEP, -1, 4, FAR)) {
            Due.dueNone("throne " + throne, x.would(0, 0, throne));
            Due.dueNone("throne " + throne + " for others", x.would(5, 11, throne));
        }
        Due.due("the first of all", x.would(0, 0, 0), 0);
        Due.due("the last of all", x.would(5, 11, 3), 10);
    }

    private static void promise16Now() {
        Due.promise(16, "Returns how many laughs a fool would get for a joke at a throne now");
        JesterUnion x = Due.union(Due.row(1, 2), Due.row(1, 4));
        Due.due("5 laughs", x.would(0, 1, 0), 5);
        Due.due("2 laughs of a slip", x.would(0, 0, 0), 2);
        Due.perform(x, 0, 0, 0);
        Due.due("0 laughs", x.would(0, 0, 0), 0);
        Due.due("1 laugh for another", x.would(1, 0, 0), 1);
        Due.perform(x, 0, 0, 0);
        Due.due("not below 0", x.would(0, 0, 0), 0);
        Due.due("not below 0 for another", x.would(1, 0, 0), 0);
        Due.due("2 laughs at another throne", x.would(0, 0, 1), 2);
        x.book(0, 0, 1, 0);
        Due.due("a booking that waits changes nothing", x.would(0, 0, 1), 2);
    }
}
