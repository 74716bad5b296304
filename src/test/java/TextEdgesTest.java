/** Promises 24 to 28, a test for each sentence that names a boundary: just inside it, and just outside. */
public final class TextEdgesTest {
    private static final int FAR = Integer.MAX_VALUE;
    private static final int DEEP = Integer.MIN_VALUE;

    private static final String DIGITS = "0123456789";
    private static final String LETTERS = "fjpbniaxw";

    /** Each beginning of an order, and the characters with which it can continue; with ";" it can end there, too. */
    private static final String[][] BEGINNINGS = {
        {"", LETTERS},
        {"f", DIGITS}, {"f0", ";"}, {"f9", ";"},
        {"j", DIGITS}, {"j0", ";"}, {"j9", ";"},
        {"p", DIGITS}, {"p0", ":"}, {"p9", ":"}, {"p0:", DIGITS}, {"p0:0", DIGITS + "*"}, {"p0:9", DIGITS + "*"},
        {"p0:00", "*"}, {"p0:99", "*"}, {"p0:0*", DIGITS}, {"p0:00*", DIGITS}, {"p0:0*0", DIGITS + ";"},
        {"p0:0*9", DIGITS + ";"}, {"p0:00*5", DIGITS + ";"}, {"p0:0*00", ";"}, {"p0:0*99", ";"}, {"p0:00*05", ";"},
        {"b", DIGITS}, {"b0", ":"}, {"b9", ":"}, {"b0:", DIGITS}, {"b0:0", DIGITS + "@"}, {"b0:9", DIGITS + "@"},
        {"b0:00", "@"}, {"b0:99", "@"}, {"b0:0@", DIGITS}, {"b0:00@", DIGITS}, {"b0:0@0", "="}, {"b0:0@9", "="},
        {"b0:00@0", "="}, {"b0:0@0=", DIGITS}, {"b0:00@0=", DIGITS}, {"b0:0@0=0", DIGITS + ";"},
        {"b0:0@0=9", DIGITS + ";"}, {"b0:0@0=00", ";"}, {"b0:0@0=99", ";"}, {"b0:00@0=00", ";"},
        {"n", ";"},
        {"i", DIGITS}, {"i0", ";"}, {"i9", ";"},
        {"a", DIGITS}, {"a0", ";"}, {"a9", ";"},
        {"x", DIGITS}, {"x0", "+-"}, {"x9", "+-"}, {"x0+", ";"}, {"x0-", ";"},
        {"w", DIGITS}, {"w0", DIGITS + ";"}, {"w9", DIGITS + ";"}, {"w00", ";"}, {"w99", ";"},
    };

    public static void main(String[] args) {
        promise24Codes();
        promise24Length();
        promise24OutOfRange();
        promise24Full();
        promise25HowMany();
        promise25FirstThatCannotContinue();
        promise25FirstThatCannotContinueLater();
        promise25EndsTooEarly();
        promise25OneOrMoreOrders();
        promise25MostCharacters();
        promise25OneOrTwoDigits();
        promise25Fool();
        promise25Joke();
        promise25Patent();
        promise25Book();
        promise25Next();
        promise25Insure();
        promise25Audit();
        promise25Exempt();
        promise25Pass();
        promise25WhichOrder();
        promise25RangeAheadOfReasons();
        promise25AllOrNone();
        promise25EmptiesTheText();
        promise26Parts();
        promise26None();
        promise27Parts();
        promise27Most();
        promise28None();
        promise28EmptyAtFirst();
        Due.finish();
    }

    // ---- promise 24

    private static void promise24Codes() {
        Due.promise(24, "the code of the character, 32 to 126");
        JesterUnion x = new JesterUnion();
        Due.dueBad("append(31)", x.append(31));
        Due.due("append(32)", x.append(32), 1);
        Due.due("append(126)", x.append(126), 2);
        Due.dueBad("append(127)", x.append(127));
        x = new JesterUnion();
        for (int code = 32; code <= 91; code++) {
            Due.due("append(" + code + ")", x.append(code), code - 31);
        }
        x = new JesterUnion();
        for (int code = 92; code <= 126; code++) {
            Due.due("append(" + code + ")", x.append(code), code - 91);
        }
    }

    private static void promise24Length() {
        Due.promise(24, "Returns the length of the text");
        JesterUnion x = new JesterUnion();
        for (int length = 1; length <= 60; length++) {
            Due.due("append('n')", x.append('n'), length);
            Due.due("account(13)", x.account(13), length);
        }
    }

    private static void promise24OutOfRange() {
        Due.promise(24, "BAD if the code is out of range");
        JesterUnion x = new JesterUnion();
        int[] codes = {DEEP, -1, 0, 10, 31, 127, 128, 255, 65536 + 'n', 65536 + 32, FAR};
        for (int code : codes) {
            Due.dueBad("append(" + code + ")", x.append(code));
        }
        Due.due("the length", x.account(13), 0);
        for (int length = 1; length <= 60; length++) {
            x.append('n');
        }
        for (int code : codes) {
            Due.dueBad("append(" + code + ") to 60 characters", x.append(code));
        }
    }

    private static void promise24Full() {
        Due.promise(24, "FULL if the text has 60 characters");
        JesterUnion x = new JesterUnion();
        for (int length = 1; length <= 59; length++) {
            x.append(length % 2 == 0 ? ';' : 'n');
        }
        Due.due("the sixtieth", x.append(';'), 60);
        for (int code : Due.row(32, 'n', 126)) {
            Due.due("append(" + code + ")", x.append(code), JesterUnion.FULL);
        }
        Due.due("the length", x.account(13), 60);
        Due.due("it was not appended", x.run(), -2060);
        Due.due("the first again", x.append('n'), 1);
    }

    // ---- promise 25, texts

    private static void promise25HowMany() {
        Due.promise(25, "Returns how many orders");
        StringBuilder text = new StringBuilder();
        for (int orders = 1; orders <= 20; orders++) {
            text.append(orders > 1 ? ";w1" : "w1");
            Due.due(orders + " orders", Due.run(new JesterUnion(), text.toString()), orders);
        }
        JesterUnion x = Due.union(Due.row(5, 6, 7), Due.row(5));
        for (int hour = 0; hour < 10; hour++) {
            x.book(0, 0, 0, hour);
        }
        Due.due("10 orders of one character each", Due.run(x, "n;n;n;n;n;n;n;n;n;n"), 10);
        Due.due("10 were carried out", x.account(10), 10);
    }

    /** Only whether it is a fault, and where, is looked at here: a right text may still be refused. */
    private static void dueFault(String text, boolean isFault, int position) {
        int got = Due.run(new JesterUnion(), text);
        if (isFault) {
            Due.due("run() of \"" + text + "\"", got, -2000 - position);
        } else {
            Due.due("run() of \"" + text + "\", a fault", got <= -2000 ? 1 : 0, 0);
        }
    }

    private static void dueContinuations(String ahead) {
        for (String[] beginning : BEGINNINGS) {
            String text = ahead + beginning[0];
            dueFault(text, !beginning[1].contains(";"), text.length());
            for (char code = 32; code <= 126; code++) {
                boolean isRight = beginning[1].indexOf(code) >= 0;
                int got = Due.run(new JesterUnion(), text + code);
                if (isRight) {
                    Due.due("run() of \"" + text + code + "\", a fault at its last character",
                        got == -2000 - text.length() ? 1 : 0, 0);
                } else {
                    Due.due("run() of \"" + text + code + "\"", got, -2000 - text.length());
                }
            }
        }
    }

    private static void promise25FirstThatCannotContinue() {
        Due.terms(25, "The fault position of a text is the index of its first character with which no such text can "
            + "continue");
        dueContinuations("");
        dueFault("f;f", true, 1);
        dueFault("ff;;", true, 1);
        dueFault("n;z;z", true, 2);
    }

    private static void promise25FirstThatCannotContinueLater() {
        Due.terms(25, "A text has one or more orders with \";\" between them");
        dueContinuations("n;");
        dueContinuations("b0:11@3=99;p5:11*48;x3-;");
    }

    private static void promise25EndsTooEarly() {
        Due.terms(25, "or its length if it ends too early");
        String[] orders = {"f5", "j5", "p0:00*05", "b0:00@0=05", "i0", "a0", "x0+", "w05"};
        for (String order : orders) {
            for (int length = 0; length < order.length(); length++) {
                String cut = order.substring(0, length);
                boolean canEnd = cut.endsWith("w0") || cut.endsWith("*0") || cut.endsWith("=0");
                dueFault(cut, !canEnd, length);
                dueFault("n;" + cut, !canEnd, length + 2);
            }
            dueFault(order, false, 0);
            dueFault(order + ";", true, order.length() + 1);
        }
    }

    private static void promise25OneOrMoreOrders() {
        Due.promise(25, "-2000 minus the fault position if the text is wrong");
        JesterUnion x = new JesterUnion();
        Due.due("an empty text", x.run(), -2000);
        Due.due("a text of \";\"", Due.run(x, ";"), -2000);
        Due.due("a text of one order", Due.run(x, "w1"), 1);
        Due.due("an empty text again", x.run(), -2000);
        Due.due("a text of one order and \";\"", Due.run(x, "w1;"), -2003);
        Due.due("a text of an order, none and an order", Due.run(x, "w1;;w1"), -2003);
        Due.due("a text of two orders", Due.run(x, "w1;w1"), 2);
        Due.due("no reason", x.reason(false), JesterUnion.NOTHING);
    }

    private static void promise25MostCharacters() {
        Due.terms(25, "its length if it ends too early");
        String hours = "w1;".repeat(18);
        JesterUnion x = Due.union(Due.row(5), Due.row(5));
        Due.due("60 characters that are right", Due.run(x, hours + "p0:0*9"), 19);
        Due.due("60 characters that end too early", Due.run(x, hours + "b0:0@0"), -2060);
        Due.due("60 characters that end with \";\"", Due.run(x, "w1;".repeat(20)), -2060);
        Due.due("60 characters of which the last is wrong", Due.run(x, hours + "w12;w;"), -2059);
        Due.due("59 characters", Due.run(x, "w1;".repeat(19) + "w1"), 20);
        Due.due("58 characters that end too early", Due.run(x, "w1;".repeat(19) + "w"), -2058);
        x = new JesterUnion();
        String nexts = "n;".repeat(30);
        Due.due("30 orders and \";\"", Due.run(x, nexts), -2060);
        Due.dueRefused("30 orders", x, Due.run(x, nexts.substring(0, 59)), 12, 0);
        Due.due("30 orders of which the last is wrong", Due.run(x, nexts.substring(0, 58) + "m"), -2058);
        Due.due("30 orders and a character", Due.run(x, nexts.substring(0, 59) + "n"), -2059);
    }

    private static void promise25OneOrTwoDigits() {
        Due.terms(25, "Jokes and hours have one or two digits, all else one");
        JesterUnion x = Due.full(5, 5);
        Due.due("one digit for hours", Due.run(x, "w9"), 1);
        Due.due("two for hours", Due.run(x, "w10;w01"), 2);
        Due.due("the hour", x.account(3), 20);
        Due.due("a joke of one digit", Due.run(x, "b0:9@0=50"), 1);
        Due.due("the joke", x.booking(0, 1), 9);
        Due.due("jokes of two digits", Due.run(x, "b0:10@0=40;b0:09@0=30"), 2);
        Due.due("the joke 09", x.booking(0, 1), 9);
        Due.due("the hour 30", x.booking(0, 3), 30);
        Due.due("the joke 10", x.booking(1, 1), 10);
        Due.due("patents", Due.run(x, "p0:1*9;p1:11*10;p2:02*01"), 3);
        Due.due("for 9", x.jokeOf(1, 2), 9);
        Due.due("for 10", x.jokeOf(11, 2), 10);
        Due.due("for 01", x.jokeOf(2, 2), 1);
        Due.due("whose", x.jokeOf(2, 1), 2);
        x = Due.union(Due.row(5), Due.row(5));
        Due.due("an hour of one digit", Due.run(x, "b0:0@0=9"), 1);
        Due.due("the hour 9", x.booking(0, 3), 9);
        Due.due("the last hour of two digits", Due.run(x, "b0:0@0=99"), 1);
        Due.due("the hour 99", x.booking(1, 3), 99);
        Due.due("a fool of two digits", Due.run(x, "i00"), -2002);
        Due.due("a skill of two digits", Due.run(x, "f05"), -2002);
        Due.due("a wit of two digits", Due.run(x, "j05"), -2002);
        Due.due("a throne of two digits", Due.run(x, "x00+"), -2002);
        Due.due("hours of three digits", Due.run(x, "w001"), -2003);
    }

    // ---- promise 25, orders

    private static void dueRuns(JesterUnion x, String text) {
        Due.due("run() of \"" + text + "\"", Due.run(x, text), 1);
    }

    /** Alone, and behind an order that can be carried out. */
    private static void dueFails(JesterUnion x, String text) {
        Due.dueRefused("run() of \"" + text + "\"", x, Due.run(x, text), 12, 0);
        String before = x.throneOf(3, 0) == 0 ? "x3+;" : "x3-;";
        Due.dueRefused("run() of \"" + before + text + "\"", x, Due.run(x, before + text), 12, 1);
    }

    private static void promise25Fool() {
        Due.terms(25, "\"f\" and a skill lets a fool come");
        JesterUnion x = new JesterUnion();
        dueFails(x, "f0");
        for (int skill : Due.row(1, 2, 7, 8, 9)) {
            dueRuns(x, "f" + skill);
        }
        Due.due("the first skill", x.foolOf(0, 0), 1);
        Due.due("the last skill", x.foolOf(4, 0), 9);
        Due.dueRefused("the sixth and a seventh", x, Due.run(x, "f5;f5"), 12, 1);
        dueRuns(x, "f5");
        dueFails(x, "f5");
        Due.due("the fools", x.account(0), 6);
    }

    private static void promise25Joke() {
        Due.terms(25, "\"j\" and a wit a joke");
        JesterUnion x = new JesterUnion();
        dueFails(x, "j0");
        for (int turn = 0; turn < 11; turn++) {
            dueRuns(x, "j" + (turn % 9 + 1));
        }
        Due.due("the first wit", x.jokeOf(0, 0), 1);
        Due.due("the most wit", x.jokeOf(8, 0), 9);
        Due.dueRefused("the twelfth and a thirteenth", x, Due.run(x, "j5;j5"), 12, 1);
        dueRuns(x, "j5");
        dueFails(x, "j5");
        Due.due("the jokes", x.account(1), 12);
    }

    private static void promise25Patent() {
        Due.terms(25, "\"p\", a fool, \":\", a joke, \"*\" and hours patents a joke");
        JesterUnion x = Due.full(9, 9);
        for (int throne = 0; throne < 4; throne++) {
            Due.perform(x, 0, 0, throne);
        }
        dueFails(x, "p6:0*1");
        dueFails(x, "p9:0*1");
        dueFails(x, "p0:12*1");
        dueFails(x, "p0:99*1");
        dueFails(x, "p0:0*0");
        dueFails(x, "p0:0*00");
        dueFails(x, "p0:0*49");
        dueFails(x, "p0:0*99");
        dueRuns(x, "p0:0*48");
        dueFails(x, "p0:0*1");
        dueFails(x, "p1:0*1");
        dueFails(x, "p1:1*21");
        dueRuns(x, "p1:1*20");
        dueFails(x, "p1:2*1");
        dueRuns(x, "p5:11*1");
        Due.due("the last joke is of the last fool", x.jokeOf(11, 1), 5);
        Due.due("for 48 hours", x.jokeOf(0, 2), 48);
    }

    private static void promise25Book() {
        Due.terms(25, "\"b\", a fool, \":\", a joke, \"@\", a throne, \"=\" and an hour books");
        JesterUnion x = Due.full(5, 5);
        x.pass(5);
        dueFails(x, "b6:0@0=5");
        dueFails(x, "b0:12@0=5");
        dueFails(x, "b0:0@4=5");
        dueFails(x, "b0:0@9=5");
        dueFails(x, "b0:0@0=4");
        dueFails(x, "b0:0@0=04");
        dueRuns(x, "b0:0@0=5");
        dueFails(x, "b0:1@1=5");
        dueRuns(x, "b5:11@2=99");
        x.exempt(1, 1);
        x.patent(1, 1, 5);
        dueFails(x, "b0:0@1=6");
        dueFails(x, "b0:1@0=6");
        dueRuns(x, "b1:1@0=6");
        for (int hour = 50; hour < 57; hour++) {
            dueRuns(x, "b0:0@0=" + hour);
        }
        dueFails(x, "b0:0@0=57");
        Due.due("ten wait", x.account(2), 10);
    }

    private static void promise25Next() {
        Due.terms(25, "\"n\" carries the next booking out");
        JesterUnion x = Due.union(Due.row(5), Due.row(5));
        dueFails(x, "n");
        x.book(0, 0, 0, 2);
        Due.dueRefused("two where one waits", x, Due.run(x, "n;n"), 12, 1);
        Due.due("it waits still", x.account(2), 1);
        dueRuns(x, "n");
        Due.due("it was told", x.told(0, 0), 1);
        dueFails(x, "n");
        Due.due("one that is booked before", Due.run(x, "b0:0@0=2;n"), 2);
    }

    private static void promise25Insure() {
        Due.terms(25, "\"i\" and a fool insures");
        JesterUnion x = Due.full(5, 5);
        dueFails(x, "i6");
        dueFails(x, "i9");
        dueRuns(x, "i5");
        dueRuns(x, "i0");
        Due.due("twice more", Due.run(x, "i0;i0"), 2);
        dueFails(x, "i0");
        Due.due("for three", x.foolOf(0, 3), 3);
        Due.leave(x, 1, 2);
        dueRuns(x, "i1");
        dueFails(x, "i1");
    }

    private static void promise25Audit() {
        Due.terms(25, "\"a\" and a fool audits");
        JesterUnion x = Due.full(9, 5);
        dueFails(x, "a6");
        dueFails(x, "a0");
        x.joke(5);
        Due.perform(x, 0, 0, 0);
        Due.due("3 tears", x.foolOf(0, 2), 3);
        Due.dueRefused("twice", x, Due.run(x, "a0;a0"), 12, 1);
        Due.due("3 tears still", x.foolOf(0, 2), 3);
        dueRuns(x, "a0");
        dueFails(x, "a0");
        Due.perform(x, 5, 0, 1);
        dueRuns(x, "a5");
    }

    private static void promise25Exempt() {
        Due.terms(25, "\"x\", a throne, and \"+\" or \"-\" makes it exempt or not");
        JesterUnion x = new JesterUnion();
        Due.dueRefused("x4+", x, Due.run(x, "x4+"), 12, 0);
        Due.dueRefused("x4-", x, Due.run(x, "x4-"), 12, 0);
        Due.dueRefused("x9+", x, Due.run(x, "x9+"), 12, 0);
        for (int throne = 0; throne < 4; throne++) {
            Due.dueRefused("not exempt already", x, Due.run(x, "x" + throne + "-"), 12, 0);
            dueRuns(x, "x" + throne + "+");
            Due.due("exempt", x.throneOf(throne, 0), 1);
            Due.dueRefused("exempt already", x, Due.run(x, "x" + throne + "+"), 12, 0);
            dueRuns(x, "x" + throne + "-");
            Due.due("not exempt", x.throneOf(throne, 0), 0);
        }
        Due.dueRefused("exempt already by the order before", x, Due.run(x, "x0+;x0+"), 12, 1);
    }

    private static void promise25Pass() {
        Due.terms(25, "\"w\" and hours lets hours pass");
        JesterUnion x = Due.union(Due.row(5), Due.row(5));
        dueFails(x, "w0");
        dueFails(x, "w00");
        dueRuns(x, "w1");
        dueRuns(x, "w24");
        dueFails(x, "w25");
        dueFails(x, "w99");
        Due.due("the hour", x.account(3), 25);
        x.book(0, 0, 0, 30);
        dueFails(x, "w6");
        Due.dueRefused("5 and 1", x, Due.run(x, "w5;w1"), 12, 1);
        dueRuns(x, "w5");
        Due.due("the hour then", x.account(3), 30);
        Due.due("beyond it when it is carried out", Due.run(x, "n;w1"), 2);
    }

    private static void promise25WhichOrder() {
        Due.promise(25, "REFUSED for the reason 12");
        String hours = "w1;".repeat(18);
        JesterUnion x = new JesterUnion();
        Due.dueRefused("the first alone", x, Due.run(x, "n"), 12, 0);
        Due.dueRefused("the first of two", x, Due.run(x, "n;w1"), 12, 0);
        Due.dueRefused("the second of two", x, Due.run(x, "w1;n"), 12, 1);
        Due.dueRefused("the second of three", x, Due.run(x, "w1;n;w1"), 12, 1);
        Due.dueRefused("the nineteenth", x, Due.run(x, hours + "n"), 12, 18);
        for (int hour = 30; hour < 40; hour++) {
            x.fool(5);
            x.joke(5);
            x.book(0, 0, 0, hour);
        }
        String nexts = "n;".repeat(30).substring(0, 59);
        Due.dueRefused("the eleventh of thirty", x, Due.run(x, nexts), 12, 10);
        Due.due("as many as wait", Due.run(x, nexts.substring(0, 19)), 10);
        Due.due("the reason is still", x.reason(false), 12);
    }

    /**
     * The sentence is taken within an order: orders are carried out one after the other, so the first that cannot be
     * is told, be it by its range or by a reason.
     */
    private static void promise25RangeAheadOfReasons() {
        Due.terms(25, "Numbers of orders are asked for their range ahead of reasons");
        JesterUnion x = Due.full(5, 5);
        Due.dueRefused("a skill, with 6 fools", x, Due.run(x, "f0"), 12, 0);
        Due.dueRefused("a wit, with 12 jokes", x, Due.run(x, "j0"), 12, 0);
        x.patent(0, 0, 20);
        Due.dueRefused("hours of a joke that is patented", x, Due.run(x, "p0:0*0"), 12, 0);
        Due.dueRefused("hours that are too dear, too", x, Due.run(x, "p0:1*49"), 12, 0);
        x.book(1, 1, 0, 3);
        Due.dueRefused("hours beyond a booking", x, Due.run(x, "w25"), 12, 0);
        Due.dueRefused("no such throne, though none is exempt", x, Due.run(x, "x4-"), 12, 0);
        Due.dueRefused("a reason, then a range", x, Due.run(x, "w1;f5;f0"), 12, 1);
        Due.dueRefused("a range, then a reason", x, Due.run(x, "w1;f0;f5"), 12, 1);
        Due.due("what is wrong is wrong ahead of both", Due.run(x, "f0;f5;z"), -2006);
    }

    private static void promise25AllOrNone() {
        Due.terms(25, "The orders are carried out one after the other, all or none");
        String before = "f5;j6;b1:1@2=7;x2+;p1:1*3;i1;";
        JesterUnion x = Due.union(Due.row(9), Due.row(9));
        Due.perform(x, 0, 0, 0);
        String state = Due.state(x);
        Due.dueRefused("none", x, Due.run(x, before + "a0;n;n"), 12, 8);
        Due.dueText("nothing is different", Due.state(x), state);
        Due.due("all", Due.run(x, before + "a0;n"), 8);
        Due.due("the fool", x.foolOf(1, 0), 5);
        Due.due("its coins", x.foolOf(1, 1), 10 - 2 - 2);
        Due.due("insured", x.foolOf(1, 3), 1);
        Due.due("the joke", x.jokeOf(1, 0), 6);
        Due.due("it was not told", x.jokeOf(1, 3), 0);
        Due.due("the audit", x.foolOf(0, 2), 1);
        Due.due("the hour", x.account(3), 7);
        Due.due("the throne", x.throneOf(2, 0), 1);
        Due.due("the last order needs the one before it", Due.run(x, "x2-;b0:0@2=7;n;w1"), 4);
        Due.due("told at that throne", x.told(0, 2), 1);
    }

    private static void promise25EmptiesTheText() {
        Due.terms(25, "except that run empties the text");
        JesterUnion x = new JesterUnion();
        Due.due("orders", Due.run(x, "w1;w1"), 2);
        Due.due("carried out", x.account(13), 0);
        Due.due("a wrong text", Due.run(x, "w1;w1;"), -2006);
        Due.due("wrong", x.account(13), 0);
        Due.dueRefused("an order that cannot be carried out", x, Due.run(x, "w1;n"), 12, 1);
        Due.due("not carried out", x.account(13), 0);
        Due.due("the first character again", x.append('w'), 1);
    }

    // ---- promise 26

    private static void dueLine(String call, JesterUnion x, int got, String want) {
        Due.due(call, got, want.length());
        Due.dueText(call, Due.line(x), want);
    }

    private static void promise26Parts() {
        Due.promise(26, "\"~\" and the tears if there are some, and \"+\" for each slip for which the fool is insured");
        JesterUnion x = Due.union(Due.row(9, 1), Due.row(2, 3, 9));
        Due.perform(x, 0, 0, 0);
        dueLine("11 laughs", x, x.tell(0), "0s9$21");
        Due.perform(x, 0, 1, 0);
        dueLine("12 laughs more", x, x.tell(0), "0s9$33~1");
        x.insure(0);
        dueLine("insured for 1", x, x.tell(0), "0s9$31~1+");
        x.insure(0);
        x.insure(0);
        dueLine("insured for 3", x, x.tell(0), "0s9$27~1+++");
        for (int throne = 0; throne < 4; throne++) {
            Due.perform(x, 0, 2, throne);
        }
        dueLine("99 coins", x, x.tell(0), "0s9$99~29+++");
        Due.leave(x, 1, 0);
        dueLine("no coins", x, x.tell(1), "1s1$0");
        x.audit(0);
        dueLine("9 tears less a coin each", x, x.tell(0), "0s9$90~2+++");
        x = Due.union(Due.row(9), Due.row(5));
        Due.perform(x, 0, 0, 0);
        x.audit(0);
        dueLine("no tears any more", x, x.tell(0), "0s9$23");
    }

    private static void promise26None() {
        Due.promise(26, "NONE if there is no such fool");
        JesterUnion x = Due.full(5, 5);
        dueLine("the first", x, x.tell(0), "0s5$10");
        dueLine("the last", x, x.tell(5), "5s5$10");
        for (int fool : Due.row(DEEP, -1, 6, FAR)) {
            Due.dueNone("tell(" + fool + ")", x.tell(fool));
        }
        Due.dueText("the line stays", Due.line(x), "5s5$10");
        x = new JesterUnion();
        Due.dueNone("without fools", x.tell(0));
        Due.dueText("the line is empty", Due.line(x), "");
    }

    // ---- promise 27

    private static void promise27Parts() {
        Due.promise(27, "in their order, with a blank between two, each as its fool, \":\" and its joke, \"@\" and its "
            + "throne, and \"=\" and its hour");
        JesterUnion x = Due.full(5, 5);
        x.tell(0);
        dueLine("none", x, x.tellBookings(), "");
        x.book(5, 9, 3, 99);
        dueLine("one", x, x.tellBookings(), "5:9@3=99");
        x.book(0, 10, 0, 9);
        dueLine("two", x, x.tellBookings(), "0:10@0=9 5:9@3=99");
        x.book(0, 0, 1, 10);
        dueLine("three", x, x.tellBookings(), "0:10@0=9 0:0@1=10 5:9@3=99");
        x.next();
        dueLine("two again", x, x.tellBookings(), "0:0@1=10 5:9@3=99");
        x.next();
        x.next();
        dueLine("none again", x, x.tellBookings(), "");
    }

    private static void promise27Most() {
        Due.promise(27, "Returns the length of the line");
        JesterUnion x = Due.full(5, 5);
        StringBuilder want = new StringBuilder();
        for (int hour = 90; hour < 100; hour++) {
            x.book(hour % 6, 11, 3, hour);
            want.append(hour > 90 ? " " : "").append(hour % 6).append(":11@3=").append(hour);
        }
        dueLine("ten of the most characters", x, x.tellBookings(), want.toString());
        Due.due("the last character", x.character(98), '9');
        Due.dueNone("no character more", x.character(99));
    }

    // ---- promise 28

    private static void promise28None() {
        Due.promise(28, "NONE if there is none");
        JesterUnion x = Due.union(Due.row(7), Due.row(5));
        x.tell(0);
        Due.due("the first", x.character(0), '0');
        Due.due("the last", x.character(5), '0');
        for (int index : Due.row(DEEP, -1, 6, 7, FAR)) {
            Due.dueNone("character(" + index + ")", x.character(index));
        }
        x.book(0, 0, 2, 7);
        x.tellBookings();
        Due.due("the last of a longer line", x.character(6), '7');
        Due.dueNone("none behind it", x.character(7));
        x.insure(0);
        x.tell(0);
        Due.due("the last of a shorter line", x.character(5), '+');
        Due.dueNone("none behind that, from the line before", x.character(6));
    }

    private static void promise28EmptyAtFirst() {
        Due.promise(28, "which is empty at first");
        JesterUnion x = Due.union(Due.row(7), Due.row(5));
        x.append('n');
        for (int index : Due.row(DEEP, -1, 0, 1, FAR)) {
            Due.dueNone("character(" + index + ")", x.character(index));
        }
        x.tell(0);
        Due.due("then it is not", x.character(0), '0');
    }
}
