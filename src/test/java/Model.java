import java.util.ArrayDeque;
import java.util.ArrayList;
import java.util.Comparator;
import java.util.Deque;
import java.util.List;
import java.util.regex.Matcher;
import java.util.regex.Pattern;

/**
 * The document once more, written apart from the program and in another way: every telling is an event that
 * is counted when it is asked for, orders are sorted anew, texts are matched by a regular expression, and
 * the state is copied whole. ModelTest compares the two.
 */
final class Model {
    static final int NONE = -1011;
    static final int BAD = -1012;
    static final int FULL = -1013;
    static final int REFUSED = -1014;
    static final int NOTHING = -1015;

    private static final Pattern ORDERS;

    static {
        String order = "(?:f\\d|j\\d|p\\d:\\d\\d?\\*\\d\\d?|b\\d:\\d\\d?@\\d=\\d\\d?|n|i\\d|a\\d|x\\d[+-]|w\\d\\d?)";
        ORDERS = Pattern.compile(order + "(?:;" + order + ")*");
    }

    private static final class Fool {
        int skill;
        int coins = 10;
        int tears;
        int insured;
    }

    private static final class Joke {
        int wit;
        int owner = -1;
        int end;
    }

    private record Booking(int fool, int joke, int throne, int hour) {
    }

    private record Telling(int fool, int joke, int throne, int laughs) {
        boolean isSlip() {
            return laughs < 5;
        }
    }

    private static final class State {
        List<Fool> fools = new ArrayList<>();
        List<Joke> jokes = new ArrayList<>();
        List<Booking> bookings = new ArrayList<>();
        List<Telling> tellings = new ArrayList<>();
        boolean[] exempt = new boolean[4];
        int hour;
        int union;
        int lost;
        int carriedOut;

        State copied() {
            State copy = new State();
            for (Fool fool : fools) {
                Fool other = new Fool();
                other.skill = fool.skill;
                other.coins = fool.coins;
                other.tears = fool.tears;
                other.insured = fool.insured;
                copy.fools.add(other);
            }
            for (Joke joke : jokes) {
                Joke other = new Joke();
                other.wit = joke.wit;
                other.owner = joke.owner;
                other.end = joke.end;
                copy.jokes.add(other);
            }
            copy.bookings.addAll(bookings);
            copy.tellings.addAll(tellings);
            copy.exempt = exempt.clone();
            copy.hour = hour;
            copy.union = union;
            copy.lost = lost;
            copy.carriedOut = carriedOut;
            return copy;
        }
    }

    private State s = new State();
    private State saved = null;
    private final Deque<State> changes = new ArrayDeque<>();
    private String text = "";
    private String line = "";
    private int reason = NOTHING;
    private int detail = NOTHING;

    // ---- what the state tells

    private boolean noFool(int fool) {
        return fool < 0 || fool >= s.fools.size();
    }

    private boolean noJoke(int joke) {
        return joke < 0 || joke >= s.jokes.size();
    }

    private static boolean noThrone(int throne) {
        return throne < 0 || throne > 3;
    }

    private int holder(int joke) {
        return s.hour < s.jokes.get(joke).end ? s.jokes.get(joke).owner : -1;
    }

    private boolean forbidden(int fool, int joke) {
        return holder(joke) != -1 && holder(joke) != fool;
    }

    private int laughs(int fool, int joke, int throne) {
        int laughs = s.jokes.get(joke).wit + s.fools.get(fool).skill - 2 * told(joke, throne);
        return laughs < 0 ? 0 : laughs;
    }

    private int coinsOfAll() {
        return s.fools.stream().mapToInt(fool -> fool.coins).sum();
    }

    private Comparator<Booking> order() {
        return Comparator.<Booking>comparingInt(b -> b.hour())
            .thenComparing(Comparator.<Booking>comparingInt(b -> s.jokes.get(b.joke()).wit).reversed())
            .thenComparingInt(b -> b.fool());
    }

    private List<Booking> sorted() {
        List<Booking> sorted = new ArrayList<>(s.bookings);
        sorted.sort(order());
        return sorted;
    }

    // ---- refusals and changes

    private int refused(int why, int with) {
        reason = why;
        detail = with;
        return REFUSED;
    }

    private interface Call {
        int answer();
    }

    private int change(Call call) {
        State earlier = s.copied();
        int answer = call.answer();
        if (answer < 0) {
            s = earlier;
            return answer;
        }
        changes.addLast(earlier);
        if (changes.size() > 8) {
            changes.removeFirst();
        }
        return answer;
    }

    int fool(int skill) {
        return change(() -> doFool(skill));
    }

    int joke(int wit) {
        return change(() -> doJoke(wit));
    }

    int patent(int fool, int joke, int hours) {
        return change(() -> doPatent(fool, joke, hours));
    }

    int insure(int fool) {
        return change(() -> doInsure(fool));
    }

    int audit(int fool) {
        return change(() -> doAudit(fool));
    }

    int exempt(int throne, int isExempt) {
        return change(() -> doExempt(throne, isExempt));
    }

    int book(int fool, int joke, int throne, int hour) {
        return change(() -> doBook(fool, joke, throne, hour));
    }

    int next() {
        return change(this::doNext);
    }

    int pass(int hours) {
        return change(() -> doPass(hours));
    }

    int run() {
        return change(this::doRun);
    }

    private int doFool(int skill) {
        if (skill < 1 || skill > 9) {
            return BAD;
        }
        if (s.fools.size() == 6) {
            return refused(1, 6);
        }
        Fool fool = new Fool();
        fool.skill = skill;
        s.fools.add(fool);
        return s.fools.size() - 1;
    }

    private int doJoke(int wit) {
        if (wit < 1 || wit > 9) {
            return BAD;
        }
        if (s.jokes.size() == 12) {
            return refused(1, 12);
        }
        Joke joke = new Joke();
        joke.wit = wit;
        s.jokes.add(joke);
        return s.jokes.size() - 1;
    }

    private int doPatent(int fool, int joke, int hours) {
        if (noFool(fool) || noJoke(joke)) {
            return NONE;
        }
        if (hours < 1 || hours > 48) {
            return BAD;
        }
        if (holder(joke) != -1) {
            return refused(6, holder(joke));
        }
        int cost = hours % 2 == 0 ? hours / 2 : hours / 2 + 1;
        Fool payer = s.fools.get(fool);
        if (cost > payer.coins) {
            return refused(7, payer.coins);
        }
        payer.coins -= cost;
        s.union += cost;
        s.jokes.get(joke).owner = fool;
        s.jokes.get(joke).end = s.hour + hours;
        return s.hour + hours;
    }

    private int doInsure(int fool) {
        if (noFool(fool)) {
            return NONE;
        }
        Fool payer = s.fools.get(fool);
        if (payer.insured == 3) {
            return refused(8, 3);
        }
        if (payer.coins < 2) {
            return refused(7, payer.coins);
        }
        payer.coins -= 2;
        s.union += 2;
        return ++payer.insured;
    }

    private int doAudit(int fool) {
        if (noFool(fool)) {
            return NONE;
        }
        Fool payer = s.fools.get(fool);
        if (payer.tears < 3) {
            return refused(10, payer.tears);
        }
        if (payer.coins == 0) {
            return refused(7, 0);
        }
        int paid = 0;
        while (payer.tears >= 3 && payer.coins > 0) {
            payer.tears -= 3;
            payer.coins--;
            s.union++;
            paid++;
        }
        return paid;
    }

    private int doExempt(int throne, int isExempt) {
        if (noThrone(throne)) {
            return NONE;
        }
        if (isExempt != 0 && isExempt != 1) {
            return BAD;
        }
        if (s.exempt[throne] == (isExempt == 1)) {
            return refused(9, isExempt);
        }
        s.exempt[throne] = isExempt == 1;
        int exempts = 0;
        for (boolean one : s.exempt) {
            exempts += one ? 1 : 0;
        }
        return exempts;
    }

    private int doBook(int fool, int joke, int throne, int hour) {
        if (noFool(fool) || noJoke(joke) || noThrone(throne)) {
            return NONE;
        }
        if (hour < 0 || hour > 99) {
            return BAD;
        }
        if (hour < s.hour) {
            return refused(2, s.hour);
        }
        if (s.exempt[throne]) {
            return refused(4, throne);
        }
        if (forbidden(fool, joke)) {
            return refused(3, holder(joke));
        }
        for (Booking other : s.bookings) {
            if (other.fool() == fool && other.hour() == hour) {
                return refused(5, other.joke());
            }
        }
        if (s.bookings.size() == 10) {
            return refused(1, 10);
        }
        Booking booking = new Booking(fool, joke, throne, hour);
        s.bookings.add(booking);
        return sorted().indexOf(booking);
    }

    private int doNext() {
        if (s.bookings.isEmpty()) {
            return refused(11, s.carriedOut);
        }
        Booking booking = sorted().get(0);
        s.bookings.remove(booking);
        s.hour = booking.hour();
        s.carriedOut++;
        Fool fool = s.fools.get(booking.fool());
        if (s.exempt[booking.throne()]) {
            return 0;
        }
        if (forbidden(booking.fool(), booking.joke())) {
            Fool other = s.fools.get(holder(booking.joke()));
            for (int coin = 0; coin < 2 && fool.coins > 0; coin++) {
                fool.coins--;
                earn(other);
            }
            return 0;
        }
        int laughs = laughs(booking.fool(), booking.joke(), booking.throne());
        s.tellings.add(new Telling(booking.fool(), booking.joke(), booking.throne(), laughs));
        if (laughs >= 5) {
            for (int coin = 1; coin <= laughs; coin++) {
                earn(fool);
                fool.tears += coin > 11 ? 1 : 0;
            }
        } else if (fool.insured > 0) {
            fool.insured--;
        } else {
            for (int coin = 0; coin < 3 && fool.coins > 0; coin++) {
                fool.coins--;
                s.union++;
            }
        }
        return laughs;
    }

    private void earn(Fool fool) {
        if (fool.coins == 99) {
            s.lost++;
        } else {
            fool.coins++;
        }
    }

    private int doPass(int hours) {
        if (hours < 1 || hours > 24) {
            return BAD;
        }
        if (!s.bookings.isEmpty() && sorted().get(0).hour() < s.hour + hours) {
            return refused(5, sorted().get(0).joke());
        }
        int ended = 0;
        for (int hour = 0; hour < hours; hour++) {
            s.hour++;
            for (Joke joke : s.jokes) {
                ended += joke.end == s.hour ? 1 : 0;
            }
        }
        return ended;
    }

    private int doRun() {
        String orders = text;
        text = "";
        if (!ORDERS.matcher(orders).matches()) {
            return -2000 - fault(orders);
        }
        int done = 0;
        for (String order : orders.split(";")) {
            if (carryOut(order) < 0) {
                return refused(12, done);
            }
            done++;
        }
        return done;
    }

    /** The length of the longest beginning that some right text has, too. */
    static int fault(String orders) {
        int length = 0;
        while (length < orders.length()) {
            Matcher matcher = ORDERS.matcher(orders.substring(0, length + 1));
            if (!matcher.matches() && !matcher.hitEnd()) {
                return length;
            }
            length++;
        }
        return length;
    }

    private int carryOut(String order) {
        String[] parts = order.substring(1).split("[:*@=+-]");
        int[] n = new int[4];
        for (int i = 0; i < parts.length; i++) {
            n[i] = parts[i].isEmpty() ? 0 : Integer.parseInt(parts[i]);
        }
        return switch (order.charAt(0)) {
            case 'f' -> doFool(n[0]);
            case 'j' -> doJoke(n[0]);
            case 'p' -> doPatent(n[0], n[1], n[2]);
            case 'b' -> doBook(n[0], n[1], n[2], n[3]);
            case 'n' -> doNext();
            case 'i' -> doInsure(n[0]);
            case 'a' -> doAudit(n[0]);
            case 'x' -> doExempt(n[0], order.endsWith("+") ? 1 : 0);
            default -> doPass(n[0]);
        };
    }

    // ---- questions

    private static int pick(int what, int... numbers) {
        return what < 0 || what >= numbers.length ? BAD : numbers[what];
    }

    int foolOf(int fool, int what) {
        if (noFool(fool)) {
            return NONE;
        }
        Fool f = s.fools.get(fool);
        int patents = 0;
        for (int joke = 0; joke < s.jokes.size(); joke++) {
            patents += holder(joke) == fool ? 1 : 0;
        }
        return pick(what, f.skill, f.coins, f.tears, f.insured, patents,
            (int) s.bookings.stream().filter(b -> b.fool() == fool).count(),
            (int) s.tellings.stream().filter(t -> t.fool() == fool).count(),
            (int) s.tellings.stream().filter(t -> t.fool() == fool && t.isSlip()).count());
    }

    int jokeOf(int joke, int what) {
        if (noJoke(joke)) {
            return NONE;
        }
        Joke j = s.jokes.get(joke);
        boolean holds = holder(joke) != -1;
        return pick(what, j.wit, holds ? j.owner : NOTHING, holds ? j.end - s.hour : 0,
            (int) s.tellings.stream().filter(t -> t.joke() == joke).count(),
            (int) s.bookings.stream().filter(b -> b.joke() == joke).count());
    }

    int throneOf(int throne, int what) {
        if (noThrone(throne)) {
            return NONE;
        }
        return pick(what, s.exempt[throne] ? 1 : 0,
            (int) s.tellings.stream().filter(t -> t.throne() == throne).count(),
            s.tellings.stream().filter(t -> t.throne() == throne && !t.isSlip()).mapToInt(Telling::laughs).sum(),
            (int) s.bookings.stream().filter(b -> b.throne() == throne).count());
    }

    int told(int joke, int throne) {
        if (noJoke(joke) || noThrone(throne)) {
            return NONE;
        }
        return (int) s.tellings.stream().filter(t -> t.joke() == joke && t.throne() == throne).count();
    }

    int booking(int place, int what) {
        if (place < 0 || place >= s.bookings.size()) {
            return NONE;
        }
        Booking b = sorted().get(place);
        return pick(what, b.fool(), b.joke(), b.throne(), b.hour());
    }

    int would(int fool, int joke, int throne) {
        if (noFool(fool) || noJoke(joke) || noThrone(throne)) {
            return NONE;
        }
        return s.exempt[throne] || forbidden(fool, joke) ? 0 : laughs(fool, joke, throne);
    }

    int best(int fool, int throne) {
        if (noFool(fool) || noThrone(throne)) {
            return NONE;
        }
        for (int laughs = 18; laughs > 0; laughs--) {
            for (int joke = 0; joke < s.jokes.size(); joke++) {
                if (would(fool, joke, throne) == laughs) {
                    return joke;
                }
            }
        }
        return NOTHING;
    }

    int ends() {
        return s.jokes.stream().mapToInt(joke -> joke.end).filter(end -> end > s.hour).min().orElse(NOTHING);
    }

    int forecast() {
        State earlier = s.copied();
        int coins = coinsOfAll();
        while (!s.bookings.isEmpty()) {
            doNext();
        }
        int more = coinsOfAll() - coins;
        s = earlier;
        return more;
    }

    int ranked(int place) {
        List<Integer> order = new ArrayList<>();
        for (int fool = 0; fool < s.fools.size(); fool++) {
            order.add(fool);
        }
        order.sort(Comparator.<Integer>comparingInt(fool -> -s.fools.get(fool).tears)
            .thenComparingInt(fool -> -s.fools.get(fool).coins).thenComparingInt(fool -> fool));
        return place < 0 || place >= order.size() ? NONE : order.get(place);
    }

    int stalest(int place) {
        List<Integer> order = new ArrayList<>();
        for (int joke = 0; joke < s.jokes.size(); joke++) {
            order.add(joke);
        }
        order.sort(Comparator.<Integer>comparingInt(joke -> -jokeOf(joke, 3))
            .thenComparingInt(joke -> -s.jokes.get(joke).wit).thenComparingInt(joke -> joke));
        return place < 0 || place >= order.size() ? NONE : order.get(place);
    }

    int append(int code) {
        if (code < 32 || code > 126) {
            return BAD;
        }
        if (text.length() == 60) {
            return FULL;
        }
        text += (char) code;
        return text.length();
    }

    int tell(int fool) {
        if (noFool(fool)) {
            return NONE;
        }
        Fool f = s.fools.get(fool);
        line = fool + "s" + f.skill + "$" + f.coins + (f.tears > 0 ? "~" + f.tears : "") + "+".repeat(f.insured);
        return line.length();
    }

    int tellBookings() {
        List<String> parts = new ArrayList<>();
        for (Booking b : sorted()) {
            parts.add(b.fool() + ":" + b.joke() + "@" + b.throne() + "=" + b.hour());
        }
        line = String.join(" ", parts);
        return line.length();
    }

    int character(int index) {
        return index < 0 || index >= line.length() ? NONE : line.charAt(index);
    }

    int reason(boolean isDetail) {
        return isDetail ? detail : reason;
    }

    int account(int what) {
        int patents = 0;
        for (int joke = 0; joke < s.jokes.size(); joke++) {
            patents += holder(joke) == -1 ? 0 : 1;
        }
        return pick(what, s.fools.size(), s.jokes.size(), s.bookings.size(), s.hour, coinsOfAll(),
            10 * s.fools.size(), s.tellings.stream().filter(t -> !t.isSlip()).mapToInt(Telling::laughs).sum(),
            s.union, s.lost, s.fools.stream().mapToInt(fool -> fool.tears).sum(), s.carriedOut,
            (int) s.tellings.stream().filter(Telling::isSlip).count(), patents, text.length(), changes.size());
    }

    double meanWit() {
        double sum = s.jokes.stream().mapToInt(joke -> joke.wit).sum();
        return s.jokes.isEmpty() ? 0.0 : sum / s.jokes.size();
    }

    float slipShare() {
        float slips = s.tellings.stream().filter(Telling::isSlip).count();
        return s.tellings.isEmpty() ? 0.0f : slips / s.tellings.size();
    }

    int undo() {
        if (changes.isEmpty()) {
            return NOTHING;
        }
        s = changes.removeLast();
        return changes.size();
    }

    int save() {
        saved = s.copied();
        return s.fools.size();
    }

    int restore() {
        if (saved == null) {
            return NOTHING;
        }
        s = saved.copied();
        changes.clear();
        return s.fools.size();
    }
}
