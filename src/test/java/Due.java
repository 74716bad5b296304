/** Compares answers with those that are due, prints the others, and ends with exit code 1 if there was one. */
final class Due {
    private static int wrong = 0;
    private static int asked = 0;
    private static int sentences = 0;
    private static String sentence = "";

    private Due() {
    }

    /** What is asked from now on is asked for these words of a promise. */
    static void promise(int promise, String words) {
        begin("Promise " + promise + ", \"" + words + "\": ", Doc.says(promise, words));
    }

    /** What is asked from now on is asked for these words of the terms, as they bind a promise. */
    static void terms(int promise, String words) {
        begin("Promise " + promise + ", by the terms, \"" + words + "\": ", Doc.says(Doc.TERMS, words));
    }

    private static void begin(String name, boolean doesDocumentSaySo) {
        sentence = name;
        sentences++;
        if (!doesDocumentSaySo) {
            wrong++;
            System.out.println(sentence + "the document does not say so");
        }
    }

    static void due(String call, long got, long want) {
        asked++;
        if (got != want) {
            wrong++;
            System.out.println(sentence + call + " answered " + got + ", due is " + want);
        }
    }

    static void dueNumber(String call, double got, double want) {
        asked++;
        if (Double.compare(got, want) != 0) {
            wrong++;
            System.out.println(sentence + call + " answered " + got + ", due is " + want);
        }
    }

    static void dueText(String call, String got, String want) {
        asked++;
        if (!got.equals(want)) {
            wrong++;
            System.out.println(sentence + call + " answered \"" + got + "\", due is \"" + want + "\"");
        }
    }

    static boolean isAllRight() {
        return wrong == 0;
    }

    static void finish() {
        String named = sentences > 0 ? " for " + sentences + " sentences" : "";
        System.out.println(asked + " answers" + named + ", " + wrong + " not as due");
        if (wrong != 0 || asked == 0) {
            System.exit(1);
        }
    }

    // ---- calls that many tests make

    static JesterUnion union(int[] skills, int[] wits) {
        JesterUnion x = new JesterUnion();
        for (int skill : skills) {
            x.fool(skill);
        }
        for (int wit : wits) {
            x.joke(wit);
        }
        return x;
    }

    static int[] row(int... numbers) {
        return numbers;
    }

    static void dueRefused(String call, JesterUnion x, int got, int reason, int detail) {
        due(call, got, JesterUnion.REFUSED);
        due(call + ", its reason", x.reason(false), reason);
        due(call + ", its detail", x.reason(true), detail);
    }

    static void dueNone(String call, int got) {
        due(call, got, JesterUnion.NONE);
    }

    static void dueBad(String call, int got) {
        due(call, got, JesterUnion.BAD);
    }

    /** Six fools and twelve jokes, as many as can be there, all of one skill and one wit. */
    static JesterUnion full(int skill, int wit) {
        JesterUnion x = new JesterUnion();
        for (int fool = 0; fool < 6; fool++) {
            x.fool(skill);
        }
        for (int joke = 0; joke < 12; joke++) {
            x.joke(wit);
        }
        return x;
    }

    /** Has a fool spend coins on patents of jokes that are free, the last first, until so many are left. */
    static void leave(JesterUnion x, int fool, int coins) {
        for (int joke = x.account(1) - 1; joke >= 0 && x.foolOf(fool, 1) > coins; joke--) {
            if (x.jokeOf(joke, 1) == JesterUnion.NOTHING) {
                x.patent(fool, joke, 2 * Math.min(24, x.foolOf(fool, 1) - coins));
            }
        }
        due("the coins that are left", x.foolOf(fool, 1), coins);
    }

    /** Books and carries out, at the hour that it is. */
    static int perform(JesterUnion x, int fool, int joke, int throne) {
        int place = x.book(fool, joke, throne, x.account(3));
        return place < 0 ? place : x.next();
    }

    static int run(JesterUnion x, String text) {
        for (int i = 0; i < text.length(); i++) {
            x.append(text.charAt(i));
        }
        return x.run();
    }

    static String line(JesterUnion x) {
        StringBuilder line = new StringBuilder();
        for (int i = 0; x.character(i) != JesterUnion.NONE; i++) {
            line.append((char) x.character(i));
        }
        return line.toString();
    }

    /** All that changes can change, as far as calls tell it; it makes no change and writes no line. */
    static String state(JesterUnion x) {
        StringBuilder all = new StringBuilder();
        for (int what = 0; what <= 12; what++) {
            all.append(x.account(what)).append(' ');
        }
        for (int fool = 0; fool < x.account(0); fool++) {
            for (int what = 0; what <= 7; what++) {
                all.append(x.foolOf(fool, what)).append(' ');
            }
        }
        for (int joke = 0; joke < x.account(1); joke++) {
            for (int what = 0; what <= 4; what++) {
                all.append(x.jokeOf(joke, what)).append(' ');
            }
            for (int throne = 0; throne < 4; throne++) {
                all.append(x.told(joke, throne)).append(' ');
            }
        }
        for (int throne = 0; throne < 4; throne++) {
            for (int what = 0; what <= 3; what++) {
                all.append(x.throneOf(throne, what)).append(' ');
            }
        }
        for (int place = 0; place < x.account(2); place++) {
            for (int what = 0; what <= 3; what++) {
                all.append(x.booking(place, what)).append(' ');
            }
        }
        return all.toString();
    }
}
