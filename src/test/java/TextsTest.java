/** Promises 24 to 28: texts and lines. */
public final class TextsTest {
    public static void main(String[] args) {
        promise24();
        promise25Orders();
        promise25Numbers();
        promise25Faults();
        promise25Refused();
        promise25AllOrNone();
        promise25IsOneChange();
        promise25LongestText();
        promise26();
        promise27();
        promise28();
        Due.finish();
    }

    private static void promise24() {
        JesterUnion x = new JesterUnion();
        for (int code : Due.row(31, 127, -1, 0, Integer.MAX_VALUE, Integer.MIN_VALUE, 65536 + 'n')) {
            Due.due("append(" + code + ")", x.append(code), JesterUnion.BAD);
        }
        Due.due("the first code", x.append(32), 1);
        Due.due("the last code", x.append(126), 2);
        for (int length = 3; length <= 60; length++) {
            Due.due("append('n')", x.append('n'), length);
        }
        Due.due("a character more", x.append('n'), JesterUnion.FULL);
        Due.due("BAD is ahead of FULL", x.append(31), JesterUnion.BAD);
        Due.due("60 characters", x.account(13), 60);
        Due.due("it is no change", x.account(14), 0);
        Due.due("a blank is no order", x.run(), -2000);
        Due.due("the text is empty then", x.append('n'), 1);
    }

    private static void promise25Orders() {
        JesterUnion x = new JesterUnion();
        Due.due("fools and jokes", Due.run(x, "f7;f9;j4;j9"), 4);
        Due.due("the skill", x.foolOf(1, 0), 9);
        Due.due("the wit", x.jokeOf(0, 0), 4);
        Due.due("a patent", Due.run(x, "p1:0*5"), 1);
        Due.due("whose", x.jokeOf(0, 1), 1);
        Due.due("until when", x.jokeOf(0, 2), 5);
        Due.due("a booking", Due.run(x, "b0:1@3=12"), 1);
        int[] booked = {0, 1, 3, 12};
        for (int what = 0; what <= 3; what++) {
            Due.due("booking(0, " + what + ")", x.booking(0, what), booked[what]);
        }
        Due.due("hours", Due.run(x, "w12"), 1);
        Due.due("the hour", x.account(3), 12);
        Due.due("the next booking", Due.run(x, "n"), 1);
        Due.due("it was told", x.told(1, 3), 1);
        Due.due("an audit", Due.run(x, "a0"), 1);
        Due.due("of 5 tears", x.foolOf(0, 2), 2);
        Due.due("insurance", Due.run(x, "i1;i1;i0"), 3);
        Due.due("of one", x.foolOf(1, 3), 2);
        Due.due("of another", x.foolOf(0, 3), 1);
        Due.due("exempt", Due.run(x, "x2+;x0+;x2-"), 3);
        Due.due("one is", x.throneOf(0, 0), 1);
        Due.due("one is not", x.throneOf(2, 0), 0);
        Due.due("nothing was refused", x.reason(false), JesterUnion.NOTHING);
    }

    private static void promise25Numbers() {
        JesterUnion x = new JesterUnion();
        for (int joke = 0; joke < 12; joke++) {
            x.joke(5);
        }
        Due.due("two digits", Due.run(x, "f5;b0:11@1=10;p0:10*12"), 3);
        Due.due("the joke", x.booking(0, 1), 11);
        Due.due("the hour", x.booking(0, 3), 10);
        Due.due("the patent", x.jokeOf(10, 2), 12);
        Due.due("a 0 ahead", Due.run(x, "b0:01@1=09;p0:02*03;w09"), 3);
        Due.due("the joke", x.booking(0, 1), 1);
        Due.due("the hour", x.account(3), 9);
        Due.due("the patent has ended", x.jokeOf(2, 2), 0);
    }

    private static void dueFault(String text, int position) {
        JesterUnion x = Due.union(Due.row(5), Due.row(5));
        String before = Due.state(x);
        Due.due("run() of \"" + text + "\"", Due.run(x, text), -2000 - position);
        Due.due("the text is empty after \"" + text + "\"", x.account(13), 0);
        Due.due("no reason after \"" + text + "\"", x.reason(false), JesterUnion.NOTHING);
        Due.dueText("nothing is different after \"" + text + "\"", Due.state(x), before);
    }

    private static void promise25Faults() {
        String[] cutShort = {"", "f", "j", "p", "p0", "p0:", "p0:0", "p0:00", "p0:0*", "b", "b0", "b0:", "b0:0",
            "b0:00", "b0:0@", "b0:0@0", "b0:0@0=", "i", "a", "x", "x0", "w", "n;", "f1;", "f1;w12;p1:00"};
        for (String text : cutShort) {
            dueFault(text, text.length());
        }
        dueFault("z", 0);
        dueFault(";", 0);
        dueFault("N", 0);
        dueFault(" n", 0);
        dueFault("n ", 1);
        dueFault("nn", 1);
        dueFault("n;;n", 2);
        dueFault("f12", 2);
        dueFault("fx", 1);
        dueFault("f-1", 1);
        dueFault("j10", 2);
        dueFault("p00:0*5", 2);
        dueFault("p0:000*5", 5);
        dueFault("p0:x*5", 3);
        dueFault("p0:0+5", 4);
        dueFault("p0:0*123", 7);
        dueFault("b0;0@0=5", 2);
        dueFault("b0:0=0@5", 4);
        dueFault("b0:0@12=5", 6);
        dueFault("b0:0@1=555", 9);
        dueFault("i10", 2);
        dueFault("a:", 1);
        dueFault("x0*", 2);
        dueFault("x0+-", 3);
        dueFault("x+", 1);
        dueFault("w123", 3);
        dueFault("w1:", 2);
        dueFault("w/", 1);
        dueFault("f5;j5;n;q", 8);
        dueFault("f5;j5;b0:0@0=0;n;x0?", 19);
    }

    private static void dueFailure(JesterUnion x, String text, int order) {
        Due.dueRefused("run() of \"" + text + "\"", x, Due.run(x, text), 12, order);
        Due.due("the text is empty after \"" + text + "\"", x.account(13), 0);
    }

    private static void promise25Refused() {
        for (String text : new String[] {"f0", "j0", "p0:0*0", "p0:0*49", "w0", "w25", "p2:0*5", "p0:2*5", "i2", "a9",
            "x4+", "b0:0@4=5", "b2:0@0=5", "b0:12@0=5", "n", "a0", "x0-", "p0:0*21"}) {
            JesterUnion x = Due.union(Due.row(5, 6), Due.row(5, 6));
            String before = Due.state(x);
            dueFailure(x, text, 0);
            dueFailure(x, "w1;" + text, 1);
            dueFailure(x, "w1;x3+;" + text + ";n", 2);
            Due.dueText("nothing is different", Due.state(x), before);
        }
    }

    private static void promise25AllOrNone() {
        JesterUnion x = Due.union(Due.row(9, 6), Due.row(9, 6));
        Due.perform(x, 0, 0, 3);
        x.book(0, 0, 0, 5);
        x.book(1, 1, 0, 5);
        int changes = x.account(14);
        String before = Due.state(x);
        dueFailure(x, "f1;j1;p0:1*5;i0;a0;x3+;b0:1@1=4;n;n;n;n", 10);
        Due.dueText("nothing is different", Due.state(x), before);
        Due.due("it is no change", x.account(14), changes);
        dueFailure(x, "f1;f1;f1;f1;f1", 4);
        dueFailure(x, "w6", 0);
        Due.dueText("still nothing is different", Due.state(x), before);
        Due.due("a later order needs an earlier one", Due.run(x, "f1;j1;b2:2@2=7;i2"), 4);
        Due.due("the fault is found before any order", Due.run(x, "f1;z"), -2003);
        Due.due("three fools", x.account(0), 3);
    }

    private static void promise25IsOneChange() {
        JesterUnion x = new JesterUnion();
        Due.due("ten orders", Due.run(x, "f1;f2;f3;j1;j2;j3;x0+;x1+;x0-;w1"), 10);
        Due.due("are one change", x.account(14), 1);
        Due.due("that is undone as one", x.undo(), 0);
        Due.due("no fool is left", x.account(0), 0);
        Due.due("the hour", x.account(3), 0);
        Due.due("orders by which nothing is different", Due.run(x, "x0+;x0-"), 2);
        Due.due("are a change, too", x.account(14), 1);
    }

    private static void promise25LongestText() {
        JesterUnion x = Due.union(Due.row(9), Due.row(9));
        StringBuilder text = new StringBuilder("w1");
        while (text.length() < 59) {
            text.append(";w1");
        }
        Due.due("20 orders in 59 characters", Due.run(x, text.toString()), 20);
        Due.due("20 hours", x.account(3), 20);
        String nexts = "n;".repeat(30);
        Due.dueRefused("30 orders in 59 characters", x, Due.run(x, nexts.substring(0, 59)), 12, 0);
        Due.due("30 orders and a sign that ends too early", Due.run(x, nexts), -2060);
        Due.due("60 characters, which end too early", Due.run(x, "w01;" + "w1;".repeat(18) + "n;"), -2060);
        Due.due("60 characters with a fault at the end", Due.run(x, "w1;".repeat(19) + "w1z"), -2059);
        Due.due("60 characters that are right", Due.run(x, "w1;".repeat(18) + "p0:0*5"), 19);
    }

    private static void dueLine(String call, JesterUnion x, int got, String want) {
        Due.due(call, got, want.length());
        Due.dueText(call, Due.line(x), want);
    }

    private static void promise26() {
        JesterUnion one = Due.union(Due.row(9), Due.row(3));
        Due.perform(one, 0, 0, 0);
        dueLine("with a tear", one, one.tell(0), "0s9$22~1");
        JesterUnion x = Due.union(Due.row(9, 1), Due.row(9, 1));
        Due.due("no such fool", x.tell(2), JesterUnion.NONE);
        Due.due("no such fool, below 0", x.tell(-1), JesterUnion.NONE);
        Due.due("no such fool, far out", x.tell(Integer.MAX_VALUE), JesterUnion.NONE);
        dueLine("without tears", x, x.tell(0), "0s9$10");
        x.insure(1);
        dueLine("insured once", x, x.tell(1), "1s1$8+");
        x.insure(1);
        x.insure(1);
        dueLine("insured thrice", x, x.tell(1), "1s1$4+++");
        Due.perform(x, 0, 0, 0);
        dueLine("with tears", x, x.tell(0), "0s9$28~7");
        Due.perform(x, 0, 0, 1);
        x.insure(0);
        dueLine("with tears and insured", x, x.tell(0), "0s9$44~14+");
        Due.due("no such fool then", x.tell(2), JesterUnion.NONE);
        Due.dueText("the line stays", Due.line(x), "0s9$44~14+");
        for (int throne = 2; throne < 4; throne++) {
            Due.perform(x, 0, 0, throne);
        }
        x.patent(0, 0, 39);
        x.patent(1, 1, 8);
        dueLine("without coins", x, x.tell(1), "1s1$0+++");
        Due.due("it is no change", x.undo(), 7);
        dueLine("the latest is undone", x, x.tell(1), "1s1$4+++");
    }

    private static void promise27() {
        JesterUnion x = new JesterUnion();
        for (int fool = 0; fool < 6; fool++) {
            x.fool(9);
        }
        for (int joke = 0; joke < 12; joke++) {
            x.joke(5);
        }
        x.tell(0);
        dueLine("none wait", x, x.tellBookings(), "");
        x.book(0, 11, 2, 7);
        dueLine("one waits", x, x.tellBookings(), "0:11@2=7");
        x.book(1, 3, 0, 9);
        dueLine("two wait", x, x.tellBookings(), "0:11@2=7 1:3@0=9");
        x.book(5, 10, 3, 99);
        x.book(5, 0, 1, 0);
        dueLine("four wait", x, x.tellBookings(), "5:0@1=0 0:11@2=7 1:3@0=9 5:10@3=99");
        for (int hour = 50; hour < 56; hour++) {
            x.book(2, 10, 3, hour);
        }
        Due.due("ten wait", x.tellBookings(), 7 + 8 + 7 + 7 * 9 + 9);
        x.undo();
        Due.due("the line is not undone", Due.line(x).length(), 94);
    }

    private static void promise28() {
        JesterUnion x = Due.union(Due.row(7), Due.row());
        Due.due("empty at first", x.character(0), JesterUnion.NONE);
        x.tell(0);
        Due.due("the first", x.character(0), '0');
        Due.due("the second", x.character(1), 's');
        Due.due("the last", x.character(5), '0');
        Due.due("behind it", x.character(6), JesterUnion.NONE);
        Due.due("below 0", x.character(-1), JesterUnion.NONE);
        Due.due("far out", x.character(Integer.MAX_VALUE), JesterUnion.NONE);
        Due.due("far below 0", x.character(Integer.MIN_VALUE), JesterUnion.NONE);
        x.tellBookings();
        Due.due("empty again", x.character(0), JesterUnion.NONE);
    }
}
