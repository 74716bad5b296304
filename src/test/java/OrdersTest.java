/** Promises 22 and 23: fools and jokes in an order. */
public final class OrdersTest {
    public static void main(String[] args) {
        promise22();
        promise23();
        Due.finish();
    }

    private static void dueRanks(String call, JesterUnion x, int... fools) {
        for (int place = 0; place < fools.length; place++) {
            Due.due(call + ", ranked(" + place + ")", x.ranked(place), fools[place]);
        }
        Due.due(call + ", no place more", x.ranked(fools.length), JesterUnion.NONE);
        Due.due(call + ", no place below 0", x.ranked(-1), JesterUnion.NONE);
        Due.due(call + ", no place far out", x.ranked(Integer.MAX_VALUE), JesterUnion.NONE);
        Due.due(call + ", no place far below 0", x.ranked(Integer.MIN_VALUE), JesterUnion.NONE);
    }

    private static void promise22() {
        JesterUnion x = new JesterUnion();
        dueRanks("no fools", x);
        x.fool(9);
        x.fool(5);
        x.fool(5);
        x.fool(4);
        x.joke(9);
        x.joke(3);
        dueRanks("all alike", x, 0, 1, 2, 3);
        x.insure(0);
        dueRanks("one with less coins", x, 1, 2, 3, 0);
        Due.perform(x, 3, 1, 0);
        dueRanks("one with more coins", x, 3, 1, 2, 0);
        Due.perform(x, 2, 0, 1);
        dueRanks("one with 3 tears", x, 2, 3, 1, 0);
        Due.perform(x, 1, 0, 2);
        dueRanks("two with 3 tears and the same coins", x, 1, 2, 3, 0);
        x.insure(1);
        dueRanks("two with 3 tears", x, 2, 1, 3, 0);
        Due.perform(x, 0, 0, 3);
        dueRanks("one with 7 tears", x, 0, 2, 1, 3);
        x.audit(0);
        dueRanks("tears are paid off", x, 2, 1, 0, 3);
        x.audit(2);
        dueRanks("all tears are paid off", x, 1, 0, 2, 3);
    }

    private static void dueStalest(String call, JesterUnion x, int... jokes) {
        for (int place = 0; place < jokes.length; place++) {
            Due.due(call + ", stalest(" + place + ")", x.stalest(place), jokes[place]);
        }
        Due.due(call + ", no place more", x.stalest(jokes.length), JesterUnion.NONE);
        Due.due(call + ", no place below 0", x.stalest(-1), JesterUnion.NONE);
        Due.due(call + ", no place far out", x.stalest(Integer.MAX_VALUE), JesterUnion.NONE);
        Due.due(call + ", no place far below 0", x.stalest(Integer.MIN_VALUE), JesterUnion.NONE);
    }

    private static void promise23() {
        JesterUnion x = new JesterUnion();
        dueStalest("no jokes", x);
        x.fool(5);
        x.joke(3);
        x.joke(7);
        x.joke(3);
        x.joke(8);
        dueStalest("by wit", x, 3, 1, 0, 2);
        Due.perform(x, 0, 2, 0);
        dueStalest("one told", x, 2, 3, 1, 0);
        Due.perform(x, 0, 0, 1);
        dueStalest("two told", x, 0, 2, 3, 1);
        Due.perform(x, 0, 1, 1);
        dueStalest("three told", x, 1, 0, 2, 3);
        Due.perform(x, 0, 2, 3);
        dueStalest("one told at two thrones", x, 2, 1, 0, 3);
    }
}
