/** Promises 29 to 36: reasons, accounts, undo and the snapshot. */
public final class AccountsTest {
    public static void main(String[] args) {
        promise29();
        promise29Stays();
        promise30();
        promise30Full();
        promise31();
        promise32();
        promise33();
        promise34();
        promise34EveryChange();
        promise34Patent();
        promise34NoChange();
        promise35And36();
        promise36Stays();
        Due.finish();
    }

    private static void promise29() {
        JesterUnion x = new JesterUnion();
        Due.due("no reason", x.reason(false), JesterUnion.NOTHING);
        Due.due("no detail", x.reason(true), JesterUnion.NOTHING);
        x.fool(0);
        x.insure(0);
        Due.due("no reason by BAD or NONE", x.reason(false), JesterUnion.NOTHING);
        Due.dueRefused("11", x, x.next(), 11, 0);
        Due.dueRefused("9", x, x.exempt(2, 0), 9, 0);
        x.fool(5);
        Due.dueRefused("10", x, x.audit(0), 10, 0);
        Due.dueRefused("12", x, Due.run(x, "f1;a0"), 12, 1);
        x.joke(5);
        Due.due("the reason stays after what is not refused", x.reason(false), 12);
        Due.due("its detail, too", x.reason(true), 1);
        x.joke(0);
        Due.due("the reason stays after BAD", x.reason(false), 12);
    }

    private static void promise29Stays() {
        JesterUnion x = Due.union(Due.row(5), Due.row(5));
        x.save();
        x.exempt(1, 1);
        Due.dueRefused("4", x, x.book(0, 0, 1, 5), 4, 1);
        x.undo();
        Due.due("not undone", x.reason(false), 4);
        x.restore();
        Due.due("not restored", x.reason(false), 4);
        Due.due("its detail is not restored", x.reason(true), 1);
    }

    private static void promise30() {
        JesterUnion x = Due.union(Due.row(9, 1), Due.row(9, 2, 9));
        for (int what : Due.row(-1, 15, Integer.MAX_VALUE, Integer.MIN_VALUE)) {
            Due.due("account(" + what + ")", x.account(what), JesterUnion.BAD);
        }
        for (int throne = 0; throne < 4; throne++) {
            Due.perform(x, 0, 0, throne);
        }
        Due.perform(x, 0, 2, 0);
        Due.perform(x, 1, 1, 0);
        x.patent(1, 2, 3);
        x.patent(0, 1, 6);
        x.insure(0);
        x.pass(4);
        x.book(0, 0, 0, 9);
        x.append('n');
        x.append(';');
        x.append('n');
        int[] due = {2, 3, 1, 4, 94 + 5, 20, 5 * 18, 3 + 2 + 3 + 2, 1, 35, 6, 1, 1, 3, 8};
        for (int what = 0; what <= 14; what++) {
            Due.due("account(" + what + ")", x.account(what), due[what]);
        }
        x.restore();
        x.undo();
        Due.due("the changes that can be undone", x.account(14), 7);
    }

    private static void promise31() {
        JesterUnion x = new JesterUnion();
        Due.due("nothing is there", x.isBalanced(), 1);
        x.fool(9);
        x.fool(2);
        Due.due("no jokes", x.isBalanced(), 1);
        for (int wit = 1; wit <= 9; wit++) {
            x.joke(10 - wit);
        }
        x.book(1, 1, 1, 1);
        x.patent(0, 1, 12);
        for (int turn = 0; turn < 20; turn++) {
            x.book(turn % 2, turn % 9, turn % 4, x.account(3) + turn % 3);
            x.insure(turn % 2);
            x.next();
            x.audit(0);
            Due.due("after turn " + turn, x.isBalanced(), 1);
        }
        x.exempt(0, 1);
        Due.due("with a throne exempt", x.isBalanced(), 1);
        x.undo();
        x.undo();
        Due.due("after undo", x.isBalanced(), 1);
    }

    private static void promise32() {
        JesterUnion x = new JesterUnion();
        Due.dueNumber("without jokes", x.meanWit(), 0.0);
        x.joke(4);
        Due.dueNumber("4", x.meanWit(), 4.0);
        x.joke(5);
        Due.dueNumber("4 and 5", x.meanWit(), 4.5);
        x.joke(1);
        Due.dueNumber("4, 5 and 1", x.meanWit(), 10.0 / 3.0);
        x.undo();
        Due.dueNumber("4 and 5 again", x.meanWit(), 4.5);
    }

    private static void promise33() {
        JesterUnion x = Due.union(Due.row(9, 1), Due.row(9, 1));
        Due.dueNumber("none told", x.slipShare(), 0.0f);
        Due.perform(x, 0, 0, 0);
        Due.dueNumber("no slip", x.slipShare(), 0.0f);
        x.insure(1);
        Due.perform(x, 1, 1, 0);
        Due.dueNumber("1 of 2, though insured", x.slipShare(), 0.5f);
        Due.perform(x, 0, 0, 1);
        Due.dueNumber("1 of 3", x.slipShare(), 1.0f / 3.0f);
        Due.perform(x, 1, 1, 0);
        Due.perform(x, 1, 1, 0);
        Due.dueNumber("3 of 5", x.slipShare(), 3.0f / 5.0f);
        JesterUnion dull = Due.union(Due.row(1), Due.row(1));
        Due.perform(dull, 0, 0, 0);
        Due.dueNumber("1 of 1", dull.slipShare(), 1.0f);
    }

    private static void promise34() {
        JesterUnion x = new JesterUnion();
        Due.due("nothing to undo", x.undo(), JesterUnion.NOTHING);
        for (int hours = 1; hours <= 11; hours++) {
            x.pass(hours);
            Due.due("the latest 8", x.account(14), Math.min(hours, 8));
        }
        int hour = x.account(3);
        for (int left = 7; left >= 0; left--) {
            Due.due("undo()", x.undo(), left);
            hour -= left + 4;
            Due.due("the hour then", x.account(3), hour);
        }
        Due.due("no more", x.undo(), JesterUnion.NOTHING);
        Due.due("the first three stay", x.account(3), 6);
        x.pass(5);
        x.pass(7);
        Due.due("after new ones", x.undo(), 1);
        Due.due("the hour after the first of them", x.account(3), 11);
    }

    private static void dueUndone(String call, JesterUnion x, int answer, String before) {
        Due.due(call + " is a change", answer >= 0 ? 1 : 0, 1);
        Due.due(call + " makes something different", Due.state(x).equals(before) ? 1 : 0, 0);
        x.undo();
        Due.dueText(call + " is undone", Due.state(x), before);
    }

    /** Its first booking brings 14 coins that are lost, its second is a slip, its third costs a fine. */
    private static JesterUnion busy() {
        JesterUnion x = Due.union(Due.row(9, 8, 1), Due.row(9, 5, 1));
        for (int throne = 0; throne < 4; throne++) {
            Due.perform(x, 0, 0, throne);
        }
        Due.perform(x, 0, 1, 0);
        x.book(2, 2, 0, 7);
        x.book(2, 0, 1, 8);
        x.patent(0, 0, 9);
        x.book(0, 0, 0, 5);
        return x;
    }

    /** A new object for each change, since the states that are compared take many calls. */
    private static void promise34EveryChange() {
        String before = Due.state(busy());
        JesterUnion x = busy();
        dueUndone("fool", x, x.fool(5), before);
        x = busy();
        dueUndone("joke", x, x.joke(5), before);
        x = busy();
        dueUndone("patent", x, x.patent(0, 1, 5), before);
        x = busy();
        dueUndone("book", x, x.book(1, 1, 2, 6), before);
        x = busy();
        dueUndone("next", x, x.next(), before);
        x = busy();
        dueUndone("insure", x, x.insure(1), before);
        x = busy();
        dueUndone("audit", x, x.audit(0), before);
        x = busy();
        dueUndone("exempt", x, x.exempt(3, 1), before);
        x = busy();
        dueUndone("pass", x, x.pass(5), before);
        x = busy();
        dueUndone("run", x, Due.run(x, "f5;n;n;n;x1+"), before);
        x = busy();
        String beforeLast = Due.state(x);
        for (int change = 0; change < 3; change++) {
            x.next();
        }
        for (int change = 0; change < 3; change++) {
            x.undo();
        }
        Due.dueText("three are undone", Due.state(x), beforeLast);
    }

    private static void promise34Patent() {
        JesterUnion x = busy();
        x.next();
        x.next();
        x.next();
        x.pass(1);
        Due.due("by another, when it has ended", x.patent(1, 0, 5), 14);
        Due.due("the fool whose patent it is", x.jokeOf(0, 1), 1);
        x.undo();
        Due.due("by none again", x.jokeOf(0, 1), JesterUnion.NOTHING);
        x.undo();
        Due.due("the fool whose patent it was", x.jokeOf(0, 1), 0);
        Due.due("for the hour that it held yet", x.jokeOf(0, 2), 1);
    }

    /** As many fools, jokes and bookings as there can be. */
    private static void promise30Full() {
        JesterUnion x = Due.union(Due.row(9, 8, 7, 6, 5, 4), Due.row(1, 2, 3, 4, 5, 6, 7, 8, 9, 8, 7, 6));
        for (int place = 0; place < 10; place++) {
            Due.due("the place", x.book(place % 6, place, place % 4, place), place);
        }
        Due.due("the last fool", x.ranked(5), 5);
        Due.due("no fool more", x.ranked(6), JesterUnion.NONE);
        Due.due("the last joke", x.stalest(11), 0);
        Due.due("no joke more", x.stalest(12), JesterUnion.NONE);
        Due.due("the best", x.best(5, 3), 8);
        Due.due("the best again", x.bestAgain(5, 3), 8);
        Due.due("no end", x.ends(), JesterUnion.NOTHING);
        Due.due("no end again", x.endsAgain(), JesterUnion.NOTHING);
        Due.due("a patent of the last", x.patent(5, 11, 20), 20);
        Due.due("whose patents", x.foolOf(5, 4), 1);
        Due.due("its end", x.ends(), 20);
        Due.due("its end again", x.endsAgain(), 20);
        Due.due("balanced", x.isBalanced(), 1);
        Due.due("the forecast", x.forecast(), 6 * 10 + 3 * 16 + 14);
        for (int place = 0; place < 10; place++) {
            Due.due("account(2)", x.account(2), 10 - place);
            x.next();
        }
        Due.dueRefused("no booking more", x, x.next(), 11, 10);
        Due.due("balanced still", x.isBalanced(), 1);
    }

    private static void promise34NoChange() {
        JesterUnion x = busy();
        x.undo();
        x.undo();
        int changes = x.account(14);
        Due.due("there is room for a change", changes, 6);
        x.fool(0);
        x.joke(10);
        x.patent(0, 0, 49);
        x.insure(5);
        x.audit(1);
        x.exempt(0, 0);
        x.book(2, 0, 0, 7);
        x.pass(24);
        Due.run(x, "n;n;n");
        Due.run(x, "n;");
        x.forecast();
        x.isBalanced();
        x.tell(0);
        x.tellBookings();
        x.append('n');
        x.save();
        x.would(0, 0, 0);
        x.best(0, 0);
        Due.due("none of these is a change", x.account(14), changes);
        x.undo();
        Due.due("the text stays", x.account(13), 1);
        Due.due("the latest change is undone", x.account(2), 1);
    }

    private static void promise35And36() {
        JesterUnion x = new JesterUnion();
        Due.due("no snapshot", x.restore(), JesterUnion.NOTHING);
        Due.due("no fools to save", x.save(), 0);
        Due.run(x, "f9;f8;j9;j5;p0:1*4;b0:0@0=5;i1;x3+");
        String first = Due.state(x);
        Due.due("two fools to save", x.save(), 2);
        Due.due("what changed can be undone", x.account(14), 1);
        x.fool(1);
        x.next();
        x.exempt(2, 1);
        Due.due("restored", x.restore(), 2);
        Due.dueText("all is as it was saved", Due.state(x), first);
        Due.due("nothing can be undone", x.undo(), JesterUnion.NOTHING);
        x.pass(1);
        Due.due("but what comes then", x.undo(), 0);
        x.joke(1);
        Due.due("the snapshot stays", x.restore(), 2);
        Due.due("as it was", x.account(1), 2);
        x.fool(1);
        Due.due("in place of the earlier one", x.save(), 3);
        x.undo();
        Due.due("the later one", x.restore(), 3);
    }

    private static void promise36Stays() {
        JesterUnion x = Due.union(Due.row(9), Due.row(9));
        x.save();
        x.append('f');
        x.tell(0);
        x.next();
        x.append('5');
        Due.due("restored", x.restore(), 1);
        Due.dueText("the line stays", Due.line(x), "0s9$10");
        Due.due("the text stays", x.account(13), 2);
        Due.due("the reason stays", x.reason(false), 11);
        Due.due("the text can be run", x.run(), 1);
        Due.due("its fool came", x.foolOf(1, 0), 5);
        JesterUnion nothing = new JesterUnion();
        nothing.fool(5);
        Due.due("NOTHING leaves all", nothing.restore(), JesterUnion.NOTHING);
        Due.due("the fool", nothing.account(0), 1);
        Due.due("the change", nothing.account(14), 1);
    }
}
