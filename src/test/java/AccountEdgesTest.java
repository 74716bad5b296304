/** Promises 29 to 36, a test for each sentence that names a boundary: just inside it, and just outside. */
public final class AccountEdgesTest {
    private static final int FAR = Integer.MAX_VALUE;
    private static final int DEEP = Integer.MIN_VALUE;

    public static void main(String[] args) {
        promise29Latest();
        promise29Nothing();
        promise29NotByOtherCodes();
        promise30What();
        promise30FoolsJokesBookings();
        promise30Hour();
        promise30Coins();
        promise30Tears();
        promise30CarriedOut();
        promise30Slips();
        promise30Patents();
        promise30Characters();
        promise30Changes();
        promise31Coins();
        promise31Tellings();
        promise31BothWays();
        promise32Mean();
        promise32WithoutJokes();
        promise33Share();
        promise33NoneTold();
        promise34UndoesEach();
        promise34HowMany();
        promise34Nothing();
        promise35AllThatChanges();
        promise35InPlaceOfAnEarlier();
        promise35Fools();
        promise36Stays();
        promise36NothingCanBeUndone();
        promise36Nothing();
        Due.finish();
    }

    // ---- promise 29

    private static void promise29Latest() {
        Due.promise(29, "Returns the latest reason, or its detail");
        JesterUnion x = Due.full(9, 9);
        Due.dueRefused("1", x, x.fool(5), 1, 6);
        Due.dueRefused("1, of jokes", x, x.joke(5), 1, 12);
        x.pass(3);
        Due.dueRefused("2", x, x.book(0, 0, 0, 2), 2, 3);
        x.patent(4, 11, 20);
        Due.dueRefused("3", x, x.book(0, 11, 0, 3), 3, 4);
        x.exempt(2, 1);
        Due.dueRefused("4", x, x.book(0, 0, 2, 3), 4, 2);
        x.book(0, 8, 0, 3);
        Due.dueRefused("5", x, x.book(0, 0, 0, 3), 5, 8);
        Due.dueRefused("5, of hours", x, x.pass(1), 5, 8);
        Due.dueRefused("6", x, x.patent(0, 11, 1), 6, 4);
        Due.dueRefused("7", x, x.patent(4, 0, 1), 7, 0);
        for (int slip = 0; slip < 3; slip++) {
            x.insure(5);
        }
        Due.dueRefused("8", x, x.insure(5), 8, 3);
        Due.dueRefused("9", x, x.exempt(2, 1), 9, 1);
        Due.dueRefused("10", x, x.audit(0), 10, 0);
        x.next();
        Due.dueRefused("11", x, x.next(), 11, 1);
        Due.dueRefused("12", x, Due.run(x, "w1;w1;n"), 12, 2);
        x.pass(1);
        Due.due("the latest is still 12", x.reason(false), 12);
        Due.due("its detail is still 2", x.reason(true), 2);
    }

    private static void promise29Nothing() {
        Due.promise(29, "NOTHING if nothing was refused");
        JesterUnion x = new JesterUnion();
        Due.due("the reason at first", x.reason(false), JesterUnion.NOTHING);
        Due.due("the detail at first", x.reason(true), JesterUnion.NOTHING);
        x.fool(5);
        x.joke(5);
        Due.run(x, "b0:0@0=0;n");
        Due.due("the reason after changes", x.reason(false), JesterUnion.NOTHING);
        Due.due("the detail after changes", x.reason(true), JesterUnion.NOTHING);
        x.next();
        Due.due("the reason when one is refused", x.reason(false), 11);
        Due.due("the detail when one is refused", x.reason(true), 1);
    }

    private static void promise29NotByOtherCodes() {
        Due.promise(29, "NOTHING if nothing was refused");
        JesterUnion x = new JesterUnion();
        callForEachOtherCode(x);
        Due.due("no reason", x.reason(false), JesterUnion.NOTHING);
        Due.due("no detail", x.reason(true), JesterUnion.NOTHING);
        Due.dueRefused("one that is refused", x, x.exempt(0, 0), 9, 0);
        callForEachOtherCode(x);
        Due.due("the reason stays", x.reason(false), 9);
        Due.due("the detail stays", x.reason(true), 0);
    }

    /** NONE, BAD, FULL, NOTHING and a fault position. */
    private static void callForEachOtherCode(JesterUnion x) {
        Due.dueNone("insure(9)", x.insure(9));
        Due.dueNone("book(9, 0, 0, 0)", x.book(9, 0, 0, 0));
        Due.dueBad("fool(0)", x.fool(0));
        Due.dueBad("pass(0)", x.pass(0));
        Due.dueBad("exempt(0, 2)", x.exempt(0, 2));
        Due.due("restore()", x.restore(), JesterUnion.NOTHING);
        Due.due("undo()", x.undo(), JesterUnion.NOTHING);
        for (int length = 0; length < 60; length++) {
            x.append('z');
        }
        Due.due("append(z)", x.append('z'), JesterUnion.FULL);
        Due.due("run()", x.run(), -2000);
    }

    // ---- promise 30

    private static void promise30What() {
        Due.promise(30, "BAD if what is not from 0 to 14");
        JesterUnion x = Due.union(Due.row(5, 5), Due.row(5));
        for (int what : Due.row(DEEP, -1, 15, 16, FAR)) {
            Due.dueBad("account(" + what + ")", x.account(what));
        }
        Due.due("the first, 0", x.account(0), 2);
        Due.due("the last, 14", x.account(14), 3);
    }

    private static void promise30FoolsJokesBookings() {
        Due.promise(30, "0 for the fools, 1 for the jokes, 2 for the bookings that wait");
        JesterUnion x = new JesterUnion();
        for (int count = 0; count < 6; count++) {
            Due.due("the fools", x.account(0), count);
            x.fool(5);
        }
        for (int count = 0; count < 12; count++) {
            Due.due("the jokes", x.account(1), count);
            x.joke(5);
        }
        for (int count = 0; count < 10; count++) {
            Due.due("the bookings", x.account(2), count);
            x.book(0, 0, 0, count);
        }
        x.fool(5);
        x.joke(5);
        x.book(0, 0, 0, 50);
        Due.due("the most fools", x.account(0), 6);
        Due.due("the most jokes", x.account(1), 12);
        Due.due("the most bookings", x.account(2), 10);
        for (int count = 9; count >= 0; count--) {
            x.next();
            Due.due("the bookings then", x.account(2), count);
        }
    }

    private static void promise30Hour() {
        Due.promise(30, "3 for the hour");
        JesterUnion x = Due.union(Due.row(5), Due.row(5));
        Due.due("at first", x.account(3), 0);
        x.book(0, 0, 0, 99);
        for (int turn = 0; turn < 4; turn++) {
            x.pass(24);
        }
        Due.due("four times 24", x.account(3), 96);
        x.next();
        Due.due("the last hour of bookings", x.account(3), 99);
        x.pass(24);
        Due.due("beyond it", x.account(3), 123);
    }

    private static void promise30Coins() {
        Due.promise(30, "4 for the coins of all fools, 5 for the coins that fools brought, 6 for those that thrones "
            + "paid so far, 7 for those that the union got so far, 8 for those that were lost so far");
        JesterUnion x = new JesterUnion();
        dueCoins("at first", x, 0, 0, 0, 0, 0);
        x.fool(9);
        x.fool(1);
        x.joke(9);
        x.joke(3);
        dueCoins("two fools", x, 20, 20, 0, 0, 0);
        for (int throne = 0; throne < 4; throne++) {
            Due.perform(x, 0, 0, throne);
        }
        dueCoins("72 laughs", x, 92, 20, 72, 0, 0);
        Due.perform(x, 0, 0, 0);
        dueCoins("16 laughs more", x, 108, 20, 88, 0, 0);
        Due.perform(x, 0, 0, 1);
        dueCoins("16 laughs more, of which 15 are lost", x, 109, 20, 104, 0, 15);
        Due.perform(x, 1, 1, 0);
        dueCoins("a slip", x, 106, 20, 104, 3, 15);
        x.insure(1);
        dueCoins("insurance", x, 104, 20, 104, 5, 15);
        Due.perform(x, 1, 1, 1);
        dueCoins("a slip for which the fool was insured", x, 104, 20, 104, 5, 15);
        x.book(1, 1, 0, 1);
        x.book(1, 1, 0, 3);
        x.patent(0, 1, 3);
        dueCoins("a patent", x, 102, 20, 104, 7, 15);
        x.next();
        dueCoins("a fine, of which 0 are lost", x, 102, 20, 104, 7, 15);
        x.next();
        dueCoins("a slip by one with 3 coins", x, 102 - 3, 20, 104, 7 + 3, 15);
        x.audit(0);
        dueCoins("an audit of 38 tears", x, 99 - 12, 20, 104, 10 + 12, 15);
    }

    private static void dueCoins(String call, JesterUnion x, int... coins) {
        for (int i = 0; i < coins.length; i++) {
            Due.due(call + ", account(" + (4 + i) + ")", x.account(4 + i), coins[i]);
        }
    }

    private static void promise30Tears() {
        Due.promise(30, "9 for the tears of all fools");
        JesterUnion x = Due.union(Due.row(9, 9), Due.row(2, 3));
        Due.due("at first", x.account(9), 0);
        Due.perform(x, 0, 0, 0);
        Due.due("11 laughs", x.account(9), 0);
        Due.perform(x, 0, 1, 0);
        Due.due("12 laughs", x.account(9), 1);
        Due.perform(x, 1, 1, 1);
        Due.due("12 laughs of another", x.account(9), 2);
        for (int throne = 2; throne < 4; throne++) {
            Due.perform(x, 1, 1, throne);
        }
        Due.due("two tears more", x.account(9), 4);
        x.audit(1);
        Due.due("three tears less", x.account(9), 1);
    }

    private static void promise30CarriedOut() {
        Due.promise(30, "10 for the bookings carried out so far");
        JesterUnion x = Due.union(Due.row(5, 5), Due.row(5, 1));
        x.book(0, 0, 0, 1);
        x.book(0, 0, 1, 2);
        x.book(0, 1, 2, 3);
        x.patent(1, 0, 2);
        x.exempt(1, 1);
        Due.due("none", x.account(10), 0);
        x.next();
        Due.due("one that is patented by another", x.account(10), 1);
        x.next();
        Due.due("one at a throne that is exempt", x.account(10), 2);
        x.next();
        Due.due("one that is told", x.account(10), 3);
        x.next();
        Due.due("none more", x.account(10), 3);
        x.undo();
        Due.due("one is undone", x.account(10), 2);
    }

    private static void promise30Slips() {
        Due.promise(30, "11 for the slips so far");
        JesterUnion x = Due.union(Due.row(1, 2), Due.row(4, 3, 2));
        Due.perform(x, 0, 0, 0);
        Due.due("5 laughs", x.account(11), 0);
        Due.perform(x, 0, 1, 0);
        Due.due("4 laughs", x.account(11), 1);
        x.insure(1);
        Due.perform(x, 1, 2, 0);
        Due.due("4 laughs of another, insured", x.account(11), 2);
        x.undo();
        Due.due("one is undone", x.account(11), 1);
    }

    private static void promise30Patents() {
        Due.promise(30, "12 for the patents that hold");
        JesterUnion x = Due.full(5, 5);
        Due.due("none", x.account(12), 0);
        for (int joke = 0; joke < 12; joke++) {
            x.patent(joke % 6, joke, joke < 6 ? 2 : 3);
            Due.due("one more", x.account(12), joke + 1);
        }
        x.pass(1);
        Due.due("in the last hour of six", x.account(12), 12);
        x.pass(1);
        Due.due("when six have ended", x.account(12), 6);
        x.patent(0, 0, 1);
        Due.due("one anew", x.account(12), 7);
        x.pass(1);
        Due.due("when all have ended", x.account(12), 0);
    }

    private static void promise30Characters() {
        Due.promise(30, "13 for the characters of the text");
        JesterUnion x = new JesterUnion();
        for (int length = 0; length < 60; length++) {
            Due.due("the characters", x.account(13), length);
            x.append('n');
        }
        x.append('n');
        Due.due("the most characters", x.account(13), 60);
        x.append(31);
        Due.due("not one that is BAD", x.account(13), 60);
        x.run();
        Due.due("none when it was run", x.account(13), 0);
    }

    private static void promise30Changes() {
        Due.promise(30, "14 for the changes that can be undone");
        JesterUnion x = new JesterUnion();
        for (int changes = 0; changes < 8; changes++) {
            Due.due("the changes", x.account(14), changes);
            x.pass(1);
        }
        Due.due("eight", x.account(14), 8);
        x.pass(1);
        Due.due("not nine", x.account(14), 8);
        x.undo();
        Due.due("seven", x.account(14), 7);
        x.save();
        Due.due("a snapshot is no change", x.account(14), 7);
        x.restore();
        Due.due("none when it is restored", x.account(14), 0);
    }

    // ---- promise 31

    private static void promise31Coins() {
        Due.promise(31, "the coins that fools brought and that thrones paid are those of fools and of the union, and "
            + "those lost");
        JesterUnion x = new JesterUnion();
        Due.due("a new object", x.isBalanced(), 1);
        x.fool(9);
        x.fool(1);
        x.joke(9);
        x.joke(3);
        Due.due("two fools", x.isBalanced(), 1);
        for (int turn = 0; turn < 7; turn++) {
            Due.perform(x, 0, 0, turn % 4);
            Due.due("laughs", x.isBalanced(), 1);
        }
        Due.due("some are lost", x.account(8) > 0 ? 1 : 0, 1);
        x.book(1, 1, 0, 3);
        x.book(1, 1, 0, 4);
        x.insure(1);
        x.patent(0, 1, 4);
        Due.due("insurance and a patent", x.isBalanced(), 1);
        x.next();
        Due.due("a fine", x.isBalanced(), 1);
        x.next();
        Due.due("a slip for which the fool is insured", x.isBalanced(), 1);
        for (int turn = 0; turn < 3; turn++) {
            Due.perform(x, 1, 1, 0);
            Due.due("a slip", x.isBalanced(), 1);
        }
        Due.due("all coins of a fool are paid", x.foolOf(1, 1), 0);
        x.audit(0);
        Due.due("an audit", x.isBalanced(), 1);
        x.undo();
        Due.due("undone", x.isBalanced(), 1);
    }

    private static void promise31Tellings() {
        Due.promise(31, "the jokes told by fools are those told at thrones");
        JesterUnion x = Due.full(5, 5);
        Due.due("none are told", x.isBalanced(), 1);
        for (int turn = 0; turn < 16; turn++) {
            Due.perform(x, turn % 6, (turn * 11) % 12, turn % 4);
            Due.due("told", x.isBalanced(), 1);
        }
        int byFools = 0;
        for (int fool = 0; fool < 6; fool++) {
            byFools += x.foolOf(fool, 6);
        }
        int atThrones = 0;
        for (int throne = 0; throne < 4; throne++) {
            atThrones += x.throneOf(throne, 1);
        }
        Due.due("told by fools", byFools, 16);
        Due.due("told at thrones", atThrones, 16);
    }

    private static void promise31BothWays() {
        Due.promise(31, "the best jokes for all fools and thrones and the end of the next patent are the same by both "
            + "ways");
        JesterUnion x = Due.union(Due.row(1, 9), Due.row(1, 1));
        Due.due("with laughs and without patents", x.isBalanced(), 1);
        Due.perform(x, 0, 0, 0);
        Due.perform(x, 0, 1, 0);
        Due.due("without a laugh at a throne for one", x.isBalanced(), 1);
        x.patent(0, 0, 1);
        x.patent(1, 1, 2);
        Due.due("with two patents", x.isBalanced(), 1);
        x.pass(1);
        Due.due("with one", x.isBalanced(), 1);
        x.pass(1);
        Due.due("with none", x.isBalanced(), 1);
        for (int throne = 0; throne < 4; throne++) {
            x.exempt(throne, 1);
        }
        Due.due("with all thrones exempt", x.isBalanced(), 1);
    }

    // ---- promises 32 and 33

    private static void promise32Mean() {
        Due.promise(32, "the sum divided by their number, both converted to double");
        JesterUnion x = new JesterUnion();
        int sum = 0;
        for (int jokes = 1; jokes <= 12; jokes++) {
            int wit = 1 + (7 * jokes) % 9;
            sum += wit;
            x.joke(wit);
            Due.dueNumber(jokes + " jokes", x.meanWit(), (double) sum / (double) jokes);
        }
        x.joke(9);
        Due.dueNumber("a thirteenth is refused", x.meanWit(), (double) sum / 12.0);
        x = Due.union(Due.row(), Due.row(1, 1, 2));
        Due.dueNumber("not rounded down, nor a float", x.meanWit(), 1.3333333333333333);
        x = Due.full(5, 9);
        Due.dueNumber("the most", x.meanWit(), 9.0);
    }

    private static void promise32WithoutJokes() {
        Due.promise(32, "0.0 without jokes");
        JesterUnion x = Due.union(Due.row(5), Due.row());
        Due.dueNumber("without jokes", x.meanWit(), 0.0);
        x.joke(1);
        Due.dueNumber("with one", x.meanWit(), 1.0);
        x.undo();
        Due.dueNumber("without jokes again", x.meanWit(), 0.0);
    }

    private static void promise33Share() {
        Due.promise(33, "Returns the share of the jokes told so far that were slips, both numbers converted to float");
        JesterUnion x = Due.union(Due.row(1, 1), Due.row(4, 3));
        Due.perform(x, 0, 0, 0);
        Due.dueNumber("5 laughs", x.slipShare(), 0.0f);
        Due.perform(x, 0, 1, 0);
        Due.dueNumber("4 laughs", x.slipShare(), 0.5f);
        Due.perform(x, 1, 1, 0);
        Due.dueNumber("2 of 3", x.slipShare(), 2.0f / 3.0f);
        x.insure(1);
        for (int turn = 4; turn <= 12; turn++) {
            Due.perform(x, 1, 1, 0);
            Due.dueNumber(turn - 1 + " of " + turn, x.slipShare(), (float) (turn - 1) / (float) turn);
        }
        x.book(0, 0, 1, 5);
        x.exempt(1, 1);
        x.next();
        Due.dueNumber("one that is not told", x.slipShare(), 11.0f / 12.0f);
    }

    private static void promise33NoneTold() {
        Due.promise(33, "0.0f if none was told");
        JesterUnion x = Due.union(Due.row(1), Due.row(1));
        Due.dueNumber("none", x.slipShare(), 0.0f);
        x.book(0, 0, 0, 1);
        x.exempt(0, 1);
        x.next();
        Due.dueNumber("one was carried out, not told", x.slipShare(), 0.0f);
        Due.perform(x, 0, 0, 1);
        Due.dueNumber("one slip of one", x.slipShare(), 1.0f);
        x.undo();
        Due.dueNumber("none again", x.slipShare(), 0.0f);
    }

    // ---- promise 34

    /**
     * Fool 0 has 97 coins and a patent of joke 0 that ends in the hour 4; a booking by which coins are lost, one that
     * costs a fine, and a slip wait for the hours 1, 2 and 5.
     */
    private static JesterUnion busy() {
        JesterUnion x = Due.union(Due.row(9, 1), Due.row(9, 8, 1));
        for (int throne = 0; throne < 4; throne++) {
            Due.perform(x, 0, 0, throne);
        }
        Due.perform(x, 0, 1, 0);
        x.book(0, 1, 1, 1);
        x.book(1, 0, 1, 2);
        x.book(1, 2, 1, 5);
        x.patent(0, 0, 4);
        return x;
    }

    private static void dueUndone(String call, JesterUnion x, int got, int want, String before) {
        Due.due(call, got, want);
        Due.due(call + " makes nothing different", Due.state(x).equals(before) ? 1 : 0, 0);
        Due.due("what can be undone before " + call, x.undo(), 7);
        Due.dueText("undone: " + call, Due.state(x), before);
    }

    private static void promise34UndoesEach() {
        Due.promise(34, "Undoes the latest change");
        String before = Due.state(busy());
        JesterUnion x = busy();
        dueUndone("fool", x, x.fool(5), 2, before);
        dueUndone("joke", x = busy(), x.joke(5), 3, before);
        dueUndone("patent", x = busy(), x.patent(1, 2, 5), 5, before);
        dueUndone("insure", x = busy(), x.insure(1), 1, before);
        dueUndone("audit", x = busy(), x.audit(0), 11, before);
        dueUndone("exempt", x = busy(), x.exempt(2, 1), 1, before);
        dueUndone("book", x = busy(), x.book(0, 0, 0, 0), 0, before);
        dueUndone("next", x = busy(), x.next(), 17, before);
        dueUndone("pass", x = busy(), x.pass(1), 0, before);
        dueUndone("run", x = busy(), Due.run(x, "n;n;n;a0;i1"), 5, before);
        x = busy();
        x.next();
        before = Due.state(x);
        dueUndone("next by a fine", x, x.next(), 0, before);
        x = busy();
        x.next();
        x.next();
        x.pass(2);
        before = Due.state(x);
        dueUndone("patent of what was another's", x, x.patent(1, 0, 1), 5, before);
        x.undo();
        Due.due("whose it is in its last hours again", x.jokeOf(0, 1), 0);
        x.pass(3);
        before = Due.state(x);
        dueUndone("next by a slip", x, x.next(), 2, before);
    }

    private static void promise34HowMany() {
        Due.promise(34, "Returns the number of changes that can still be undone");
        for (int changes = 1; changes <= 10; changes++) {
            JesterUnion x = new JesterUnion();
            for (int change = 0; change < changes; change++) {
                x.pass(change + 1);
            }
            int hour = x.account(3);
            int undone = Math.min(changes, 8);
            for (int left = undone - 1; left >= 0; left--) {
                Due.due("of " + changes, x.undo(), left);
                hour -= changes - (undone - 1 - left);
                Due.due("the hour", x.account(3), hour);
            }
            Due.due("no more of " + changes, x.undo(), JesterUnion.NOTHING);
            Due.due("the hour still", x.account(3), hour);
        }
    }

    private static void promise34Nothing() {
        Due.promise(34, "NOTHING if there is none");
        JesterUnion x = new JesterUnion();
        Due.due("a new object", x.undo(), JesterUnion.NOTHING);
        x.fool(0);
        x.next();
        Due.due("after what was not successful", x.undo(), JesterUnion.NOTHING);
        x.fool(5);
        Due.due("after a change", x.undo(), 0);
        Due.due("after it was undone", x.undo(), JesterUnion.NOTHING);
        for (int turn = 0; turn < 20; turn++) {
            x.pass(1);
            x.pass(2);
            Due.due("the later of two", x.undo(), Math.min(turn + 1, 7));
        }
        Due.due("the hour", x.account(3), 20);
        for (int left = 6; left >= 0; left--) {
            Due.due("the earlier of two", x.undo(), left);
            Due.due("the hour then", x.account(3), 13 + left);
        }
        Due.due("no more than eight", x.undo(), JesterUnion.NOTHING);
    }

    // ---- promises 35 and 36

    private static void promise35AllThatChanges() {
        Due.promise(35, "Saves all that changes can change");
        JesterUnion x = Due.union(Due.row(9, 1), Due.row(9, 3));
        Due.perform(x, 0, 0, 3);
        Due.perform(x, 1, 1, 3);
        x.insure(1);
        x.insure(1);
        x.book(0, 1, 2, 5);
        x.patent(0, 0, 9);
        x.exempt(1, 1);
        x.pass(2);
        String state = Due.state(x);
        Due.due("save()", x.save(), 2);
        Due.due("all changes", Due.run(x, "f5;j5;n;i0;a0;x2+;x1-;b1:1@0=20;w8;p1:1*1"), 10);
        Due.due("restore()", x.restore(), 2);
        Due.dueText("all is as it was", Due.state(x), state);
    }

    private static void promise35InPlaceOfAnEarlier() {
        Due.promise(35, "in place of an earlier snapshot");
        JesterUnion x = new JesterUnion();
        x.save();
        x.fool(5);
        Due.due("the first snapshot", x.restore(), 0);
        x.fool(5);
        x.pass(7);
        Due.due("the second is taken", x.save(), 1);
        x.fool(5);
        x.pass(1);
        Due.due("the second snapshot", x.restore(), 1);
        Due.due("its hour", x.account(3), 7);
        x.undo();
        Due.due("the second snapshot again", x.restore(), 1);
    }

    private static void promise35Fools() {
        Due.promise(35, "Returns the fools");
        JesterUnion x = new JesterUnion();
        for (int fools = 0; fools <= 6; fools++) {
            Due.due("save() with " + fools, x.save(), fools);
            Due.due("restore() with " + fools, x.restore(), fools);
            x.fool(5);
        }
    }

    private static void promise36Stays() {
        Due.promise(36, "Restores the snapshot, which stays");
        JesterUnion x = Due.union(Due.row(5), Due.row(5));
        x.save();
        for (int turn = 0; turn < 3; turn++) {
            x.fool(5);
            x.joke(5);
            Due.perform(x, 0, 0, 0);
            x.pass(1);
            Due.due("the fools", x.restore(), 1);
            Due.due("the jokes", x.account(1), 1);
            Due.due("not told", x.told(0, 0), 0);
            Due.due("the hour", x.account(3), 0);
        }
        x = Due.union(Due.row(5, 5), Due.row(5));
        x.patent(0, 0, 2);
        x.save();
        x.pass(2);
        x.patent(1, 0, 9);
        x.restore();
        Due.due("whose patent it was", x.jokeOf(0, 1), 0);
        Due.due("for how many hours", x.jokeOf(0, 2), 2);
    }

    private static void promise36NothingCanBeUndone() {
        Due.promise(36, "Nothing can be undone then");
        JesterUnion x = new JesterUnion();
        for (int turn = 0; turn < 9; turn++) {
            x.pass(1);
        }
        x.save();
        Due.due("a snapshot leaves them", x.account(14), 8);
        x.restore();
        Due.due("the changes", x.account(14), 0);
        Due.due("undo()", x.undo(), JesterUnion.NOTHING);
        Due.due("the hour", x.account(3), 9);
        x.pass(2);
        Due.due("a change that comes then", x.undo(), 0);
        Due.due("the hour then", x.account(3), 9);
        Due.due("undo() then", x.undo(), JesterUnion.NOTHING);
    }

    private static void promise36Nothing() {
        Due.promise(36, "NOTHING if there is no snapshot");
        JesterUnion x = Due.union(Due.row(5), Due.row(5));
        x.pass(1);
        Due.due("restore()", x.restore(), JesterUnion.NOTHING);
        Due.due("the fools stay", x.account(0), 1);
        Due.due("the hour stays", x.account(3), 1);
        Due.due("the changes stay", x.account(14), 3);
        x.save();
        Due.due("with a snapshot", x.restore(), 1);
        JesterUnion empty = new JesterUnion();
        empty.save();
        empty.fool(5);
        Due.due("with a snapshot of no fools", empty.restore(), 0);
        Due.due("no fools then", empty.account(0), 0);
    }
}
