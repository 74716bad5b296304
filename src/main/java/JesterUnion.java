/** A union of jesters, as the document's promises 1 to 36 describe it; README.md tells how to use it. */
public final class JesterUnion {
    public static final int NONE = -1011;
    public static final int BAD = -1012;
    public static final int FULL = -1013;
    public static final int REFUSED = -1014;
    public static final int NOTHING = -1015;

    private static final int MOST_FOOLS = 6;
    private static final int MOST_JOKES = 12;
    private static final int THRONES = 4;
    private static final int MOST_BOOKINGS = 10;

    private static final int MOST_SKILL = 9;
    private static final int MOST_WIT = 9;
    private static final int MOST_PATENT_HOURS = 48;
    private static final int MOST_PASSING_HOURS = 24;
    private static final int LAST_BOOKABLE_HOUR = 99;

    private static final int MOST_COINS = 99;
    private static final int FIRST_COINS = 10;
    private static final int INSURANCE_COST = 2;
    private static final int MOST_INSURED = 3;
    private static final int TEARS_A_COIN = 3;
    private static final int PATENT_FINE = 2;
    private static final int SLIP_FINE = 3;
    private static final int LAUGHS_LOST_A_TELLING = 2;
    private static final int LAUGHS_WITHOUT_SLIP = 5;
    private static final int LAUGHS_WITHOUT_TEAR = 11;

    private static final int FIRST_CODE = 32;
    private static final int LAST_CODE = 126;
    private static final int MOST_CHARACTERS = 60;
    private static final int FAULT_BASE = -2000;
    private static final int MOST_CHANGES_KEPT = 8;

    private static final int NO_ROOM = 1;
    private static final int HOUR_PAST = 2;
    private static final int PATENTED_BY_ANOTHER = 3;
    private static final int THRONE_EXEMPT = 4;
    private static final int HOUR_BOOKED = 5;
    private static final int PATENTED = 6;
    private static final int TOO_FEW_COINS = 7;
    private static final int FULLY_INSURED = 8;
    private static final int SO_ALREADY = 9;
    private static final int TOO_FEW_TEARS = 10;
    private static final int NOTHING_WAITS = 11;
    private static final int ORDER_FAILS = 12;

    private final Court now = new Court();
    private final Court before = new Court();
    private final Court trial = new Court();
    private final Court snapshot = new Court();
    private final History history = new History();
    private final OrderText text = new OrderText();
    private final StringBuilder line = new StringBuilder();
    private boolean isSaved = false;
    private int latestReason = NOTHING;
    private int latestDetail = NOTHING;

    public JesterUnion() {
    }

    // ---- fools, jokes

    public int fool(int skill) {
        before.take(now);
        return remember(admit(skill));
    }

    public int joke(int wit) {
        before.take(now);
        return remember(invent(wit));
    }

    public int patent(int fool, int joke, int hours) {
        before.take(now);
        return remember(grant(fool, joke, hours));
    }

    public int insure(int fool) {
        before.take(now);
        return remember(cover(fool));
    }

    public int audit(int fool) {
        before.take(now);
        return remember(collect(fool));
    }

    public int foolOf(int fool, int what) {
        if (!now.fools.has(fool)) {
            return NONE;
        }
        switch (what) {
            case 0: return now.fools.skill[fool];
            case 1: return now.fools.coins[fool];
            case 2: return now.fools.tears[fool];
            case 3: return now.fools.insured[fool];
            case 4: return now.patentsOf(fool);
            case 5: return now.bookings.with(now.bookings.fool, fool);
            case 6: return now.fools.told[fool];
            case 7: return now.fools.slips[fool];
            default: return BAD;
        }
    }

    public int jokeOf(int joke, int what) {
        if (!now.jokes.has(joke)) {
            return NONE;
        }
        switch (what) {
            case 0: return now.jokes.wit[joke];
            case 1: return now.holds(joke) ? now.jokes.owner[joke] : NOTHING;
            case 2: return now.holds(joke) ? now.jokes.end[joke] - now.hour : 0;
            case 3: return now.jokes.tellings(joke);
            case 4: return now.bookings.with(now.bookings.joke, joke);
            default: return BAD;
        }
    }

    // ---- thrones, bookings

    public int exempt(int throne, int isExempt) {
        before.take(now);
        return remember(setExempt(throne, isExempt));
    }

    public int throneOf(int throne, int what) {
        if (!isThrone(throne)) {
            return NONE;
        }
        switch (what) {
            case 0: return now.exempt[throne];
            case 1: return now.jokes.tellingsAt(throne);
            case 2: return now.paid[throne];
            case 3: return now.bookings.with(now.bookings.throne, throne);
            default: return BAD;
        }
    }

    public int told(int joke, int throne) {
        if (!now.jokes.has(joke) || !isThrone(throne)) {
            return NONE;
        }
        return now.jokes.toldAt(joke, throne);
    }

    public int book(int fool, int joke, int throne, int hour) {
        before.take(now);
        return remember(reserve(fool, joke, throne, hour));
    }

    public int next() {
        before.take(now);
        return remember(carryNextOut());
    }

    public int pass(int hours) {
        before.take(now);
        return remember(elapse(hours));
    }

    public int booking(int place, int what) {
        if (place < 0 || place >= now.bookings.count) {
            return NONE;
        }
        switch (what) {
            case 0: return now.bookings.fool[place];
            case 1: return now.bookings.joke[place];
            case 2: return now.bookings.throne[place];
            case 3: return now.bookings.hour[place];
            default: return BAD;
        }
    }

    public int would(int fool, int joke, int throne) {
        if (!now.fools.has(fool) || !now.jokes.has(joke) || !isThrone(throne)) {
            return NONE;
        }
        return now.laughsNow(fool, joke, throne);
    }

    public int best(int fool, int throne) {
        if (!now.fools.has(fool) || !isThrone(throne)) {
            return NONE;
        }
        return now.bestJokeByJoke(fool, throne);
    }

    public int bestAgain(int fool, int throne) {
        if (!now.fools.has(fool) || !isThrone(throne)) {
            return NONE;
        }
        return now.bestByWit(fool, throne);
    }

    public int ends() {
        return now.endJokeByJoke();
    }

    public int endsAgain() {
        return now.endHourByHour();
    }

    public int forecast() {
        trial.take(now);
        for (int waiting = now.bookings.count; waiting > 0; waiting--) {
            trial.carryFirstOut();
        }
        return sum(trial.fools.coins) - sum(now.fools.coins);
    }

    // ---- orders

    public int ranked(int place) {
        return now.fools.atRank(place);
    }

    public int stalest(int place) {
        return now.jokes.atRank(place);
    }

    // ---- texts, lines

    public int append(int code) {
        if (code < FIRST_CODE || code > LAST_CODE) {
            return BAD;
        }
        if (text.signs.length() >= MOST_CHARACTERS) {
            return FULL;
        }
        text.signs.append((char) code);
        return text.signs.length();
    }

    public int run() {
        before.take(now);
        boolean isRight = text.read();
        text.signs.setLength(0);
        if (!isRight) {
            return FAULT_BASE - text.place;
        }
        for (int order = 0; order < text.count; order++) {
            if (carryOrderOut(order) < 0) {
                now.take(before);
                return refuse(ORDER_FAILS, order);
            }
        }
        return remember(text.count);
    }

    public int tell(int fool) {
        if (!now.fools.has(fool)) {
            return NONE;
        }
        line.setLength(0);
        line.append(fool);
        write('s', now.fools.skill[fool]);
        write('$', now.fools.coins[fool]);
        if (now.fools.tears[fool] > 0) {
            write('~', now.fools.tears[fool]);
        }
        for (int slip = 0; slip < now.fools.insured[fool]; slip++) {
            line.append('+');
        }
        return line.length();
    }

    public int tellBookings() {
        line.setLength(0);
        for (int place = 0; place < now.bookings.count; place++) {
            if (place > 0) {
                line.append(' ');
            }
            line.append(now.bookings.fool[place]);
            write(':', now.bookings.joke[place]);
            write('@', now.bookings.throne[place]);
            write('=', now.bookings.hour[place]);
        }
        return line.length();
    }

    public int character(int index) {
        if (index < 0 || index >= line.length()) {
            return NONE;
        }
        return line.charAt(index);
    }

    // ---- reasons, accounts, undo and the snapshot

    public int reason(boolean isDetail) {
        return isDetail ? latestDetail : latestReason;
    }

    public int account(int what) {
        switch (what) {
            case 0: return now.fools.count;
            case 1: return now.jokes.count;
            case 2: return now.bookings.count;
            case 3: return now.hour;
            case 4: return sum(now.fools.coins);
            case 5: return now.brought;
            case 6: return sum(now.paid);
            case 7: return now.union;
            case 8: return now.lost;
            case 9: return sum(now.fools.tears);
            case 10: return now.carriedOut;
            case 11: return sum(now.fools.slips);
            case 12: return now.patents();
            case 13: return text.signs.length();
            case 14: return history.count;
            default: return BAD;
        }
    }

    public int isBalanced() {
        boolean isSo = areCoinsAccountedFor() && areTellingsAccountedFor()
            && areBestsTheSame() && now.endJokeByJoke() == now.endHourByHour();
        return isSo ? 1 : 0;
    }

    public double meanWit() {
        if (now.jokes.count == 0) {
            return 0.0;
        }
        return (double) sum(now.jokes.wit) / (double) now.jokes.count;
    }

    public float slipShare() {
        int tellings = sum(now.fools.told);
        if (tellings == 0) {
            return 0.0f;
        }
        return (float) sum(now.fools.slips) / (float) tellings;
    }

    public int undo() {
        if (history.count == 0) {
            return NOTHING;
        }
        history.giveLatestBack(now);
        return history.count;
    }

    public int save() {
        snapshot.take(now);
        isSaved = true;
        return now.fools.count;
    }

    public int restore() {
        if (!isSaved) {
            return NOTHING;
        }
        now.take(snapshot);
        history.forgetAll();
        return now.fools.count;
    }

    // ---- the changes, each as a call or as an order of a text

    private int admit(int skill) {
        if (skill < 1 || skill > MOST_SKILL) {
            return BAD;
        }
        if (now.fools.count >= MOST_FOOLS) {
            return refuse(NO_ROOM, MOST_FOOLS);
        }
        now.brought += FIRST_COINS;
        return now.fools.add(skill);
    }

    private int invent(int wit) {
        if (wit < 1 || wit > MOST_WIT) {
            return BAD;
        }
        if (now.jokes.count >= MOST_JOKES) {
            return refuse(NO_ROOM, MOST_JOKES);
        }
        return now.jokes.add(wit);
    }

    private int grant(int fool, int joke, int hours) {
        if (!now.fools.has(fool) || !now.jokes.has(joke)) {
            return NONE;
        }
        if (hours < 1 || hours > MOST_PATENT_HOURS) {
            return BAD;
        }
        if (now.holds(joke)) {
            return refuse(PATENTED, now.jokes.owner[joke]);
        }
        int cost = (hours + 1) / 2;
        if (now.fools.coins[fool] < cost) {
            return refuse(TOO_FEW_COINS, now.fools.coins[fool]);
        }
        now.payUnion(fool, cost);
        now.jokes.owner[joke] = fool;
        now.jokes.end[joke] = now.hour + hours;
        return now.jokes.end[joke];
    }

    private int cover(int fool) {
        if (!now.fools.has(fool)) {
            return NONE;
        }
        if (now.fools.insured[fool] >= MOST_INSURED) {
            return refuse(FULLY_INSURED, MOST_INSURED);
        }
        if (now.fools.coins[fool] < INSURANCE_COST) {
            return refuse(TOO_FEW_COINS, now.fools.coins[fool]);
        }
        now.payUnion(fool, INSURANCE_COST);
        now.fools.insured[fool]++;
        return now.fools.insured[fool];
    }

    private int collect(int fool) {
        if (!now.fools.has(fool)) {
            return NONE;
        }
        int tears = now.fools.tears[fool];
        if (tears < TEARS_A_COIN) {
            return refuse(TOO_FEW_TEARS, tears);
        }
        if (now.fools.coins[fool] == 0) {
            return refuse(TOO_FEW_COINS, 0);
        }
        int paid = now.payUnion(fool, tears / TEARS_A_COIN);
        now.fools.tears[fool] -= TEARS_A_COIN * paid;
        return paid;
    }

    private int setExempt(int throne, int isExempt) {
        if (!isThrone(throne)) {
            return NONE;
        }
        if (isExempt != 0 && isExempt != 1) {
            return BAD;
        }
        if (now.exempt[throne] == isExempt) {
            return refuse(SO_ALREADY, isExempt);
        }
        now.exempt[throne] = isExempt;
        return sum(now.exempt);
    }

    private int reserve(int fool, int joke, int throne, int hour) {
        if (!now.fools.has(fool) || !now.jokes.has(joke) || !isThrone(throne)) {
            return NONE;
        }
        if (hour < 0 || hour > LAST_BOOKABLE_HOUR) {
            return BAD;
        }
        if (hour < now.hour) {
            return refuse(HOUR_PAST, now.hour);
        }
        if (now.exempt[throne] == 1) {
            return refuse(THRONE_EXEMPT, throne);
        }
        if (now.isBarred(fool, joke)) {
            return refuse(PATENTED_BY_ANOTHER, now.jokes.owner[joke]);
        }
        int bookedJoke = now.bookings.jokeOfFoolAt(fool, hour);
        if (bookedJoke != NOTHING) {
            return refuse(HOUR_BOOKED, bookedJoke);
        }
        if (now.bookings.count >= MOST_BOOKINGS) {
            return refuse(NO_ROOM, MOST_BOOKINGS);
        }
        int place = now.placeFor(fool, joke, hour);
        now.bookings.insert(place, fool, joke, throne, hour);
        return place;
    }

    private int carryNextOut() {
        if (now.bookings.count == 0) {
            return refuse(NOTHING_WAITS, now.carriedOut);
        }
        return now.carryFirstOut();
    }

    private int elapse(int hours) {
        if (hours < 1 || hours > MOST_PASSING_HOURS) {
            return BAD;
        }
        if (now.bookings.count > 0 && now.bookings.hour[0] < now.hour + hours) {
            return refuse(HOUR_BOOKED, now.bookings.joke[0]);
        }
        int held = now.patents();
        now.hour += hours;
        return held - now.patents();
    }

    private int carryOrderOut(int order) {
        int first = text.number(order, 0);
        int second = text.number(order, 1);
        int third = text.number(order, 2);
        int fourth = text.number(order, 3);
        switch (text.letter(order)) {
            case 'f': return admit(first);
            case 'j': return invent(first);
            case 'p': return grant(first, second, third);
            case 'b': return reserve(first, second, third, fourth);
            case 'n': return carryNextOut();
            case 'i': return cover(first);
            case 'a': return collect(first);
            case 'x': return setExempt(first, second);
            case 'w': return elapse(first);
            default: return BAD;
        }
    }

    /** Every answer below 0 is a code, so only the others are changes. */
    private int remember(int answer) {
        if (answer >= 0) {
            history.keep(before);
        }
        return answer;
    }

    private int refuse(int reason, int detail) {
        latestReason = reason;
        latestDetail = detail;
        return REFUSED;
    }

    // ---- the parts of the balance

    private boolean areCoinsAccountedFor() {
        int came = now.brought + sum(now.paid);
        int went = sum(now.fools.coins) + now.union + now.lost;
        return came == went;
    }

    private boolean areTellingsAccountedFor() {
        int atThrones = 0;
        for (int throne = 0; throne < THRONES; throne++) {
            atThrones += now.jokes.tellingsAt(throne);
        }
        return sum(now.fools.told) == atThrones;
    }

    private boolean areBestsTheSame() {
        for (int fool = 0; fool < now.fools.count; fool++) {
            for (int throne = 0; throne < THRONES; throne++) {
                if (now.bestJokeByJoke(fool, throne) != now.bestByWit(fool, throne)) {
                    return false;
                }
            }
        }
        return true;
    }

    // ---- small helps

    private void write(char sign, int number) {
        line.append(sign);
        line.append(number);
    }

    private static boolean isThrone(int throne) {
        return throne >= 0 && throne < THRONES;
    }

    private static int sum(int[] row) {
        int total = 0;
        for (int number : row) {
            total += number;
        }
        return total;
    }

    private static void copy(int[] from, int[] to) {
        System.arraycopy(from, 0, to, 0, Math.min(from.length, to.length));
    }

    /** The fools; what stands in a row beyond their count is 0, so that whole rows can be summed. */
    private static final class Fools {
        int count = 0;
        final int[] skill = new int[MOST_FOOLS];
        final int[] coins = new int[MOST_FOOLS];
        final int[] tears = new int[MOST_FOOLS];
        final int[] insured = new int[MOST_FOOLS];
        final int[] told = new int[MOST_FOOLS];
        final int[] slips = new int[MOST_FOOLS];

        void take(Fools other) {
            count = other.count;
            copy(other.skill, skill);
            copy(other.coins, coins);
            copy(other.tears, tears);
            copy(other.insured, insured);
            copy(other.told, told);
            copy(other.slips, slips);
        }

        boolean has(int fool) {
            return fool >= 0 && fool < count;
        }

        int add(int newSkill) {
            int fool = count;
            skill[fool] = newSkill;
            coins[fool] = FIRST_COINS;
            count++;
            return fool;
        }

        int atRank(int place) {
            for (int fool = 0; fool < count; fool++) {
                if (countAhead(fool) == place) {
                    return fool;
                }
            }
            return NONE;
        }

        private int countAhead(int fool) {
            int ahead = 0;
            for (int other = 0; other < count; other++) {
                if (isAhead(other, fool)) {
                    ahead++;
                }
            }
            return ahead;
        }

        private boolean isAhead(int one, int other) {
            if (tears[one] != tears[other]) {
                return tears[one] > tears[other];
            }
            if (coins[one] != coins[other]) {
                return coins[one] > coins[other];
            }
            return one < other;
        }
    }

    /** The jokes; what stands in a row beyond their count is 0, so that whole rows can be summed. */
    private static final class Jokes {
        int count = 0;
        final int[] wit = new int[MOST_JOKES];
        final int[] owner = new int[MOST_JOKES];
        final int[] end = new int[MOST_JOKES];
        private final int[] told = new int[MOST_JOKES * THRONES];

        void take(Jokes other) {
            count = other.count;
            copy(other.wit, wit);
            copy(other.owner, owner);
            copy(other.end, end);
            copy(other.told, told);
        }

        boolean has(int joke) {
            return joke >= 0 && joke < count;
        }

        int add(int newWit) {
            int joke = count;
            wit[joke] = newWit;
            count++;
            return joke;
        }

        int toldAt(int joke, int throne) {
            return told[joke * THRONES + throne];
        }

        void addTelling(int joke, int throne) {
            told[joke * THRONES + throne]++;
        }

        int tellings(int joke) {
            int total = 0;
            for (int throne = 0; throne < THRONES; throne++) {
                total += toldAt(joke, throne);
            }
            return total;
        }

        int tellingsAt(int throne) {
            int total = 0;
            for (int joke = 0; joke < count; joke++) {
                total += toldAt(joke, throne);
            }
            return total;
        }

        int atRank(int place) {
            for (int joke = 0; joke < count; joke++) {
                if (countAhead(joke) == place) {
                    return joke;
                }
            }
            return NONE;
        }

        private int countAhead(int joke) {
            int ahead = 0;
            for (int other = 0; other < count; other++) {
                if (isAhead(other, joke)) {
                    ahead++;
                }
            }
            return ahead;
        }

        private boolean isAhead(int one, int other) {
            int tellingsOfOne = tellings(one);
            int tellingsOfOther = tellings(other);
            if (tellingsOfOne != tellingsOfOther) {
                return tellingsOfOne > tellingsOfOther;
            }
            if (wit[one] != wit[other]) {
                return wit[one] > wit[other];
            }
            return one < other;
        }
    }

    /** The bookings that wait, always in their order: the first is carried out next. */
    private static final class Bookings {
        int count = 0;
        final int[] fool = new int[MOST_BOOKINGS];
        final int[] joke = new int[MOST_BOOKINGS];
        final int[] throne = new int[MOST_BOOKINGS];
        final int[] hour = new int[MOST_BOOKINGS];

        void take(Bookings other) {
            count = other.count;
            copy(other.fool, fool);
            copy(other.joke, joke);
            copy(other.throne, throne);
            copy(other.hour, hour);
        }

        /** How many bookings have this number in a row, which is one of the four above. */
        int with(int[] row, int number) {
            int found = 0;
            for (int place = 0; place < count; place++) {
                if (row[place] == number) {
                    found++;
                }
            }
            return found;
        }

        int jokeOfFoolAt(int itsFool, int itsHour) {
            for (int place = 0; place < count; place++) {
                if (fool[place] == itsFool && hour[place] == itsHour) {
                    return joke[place];
                }
            }
            return NOTHING;
        }

        void insert(int place, int itsFool, int itsJoke, int itsThrone, int itsHour) {
            for (int later = count; later > place; later--) {
                move(later - 1, later);
            }
            fool[place] = itsFool;
            joke[place] = itsJoke;
            throne[place] = itsThrone;
            hour[place] = itsHour;
            count++;
        }

        void removeFirst() {
            for (int place = 1; place < count; place++) {
                move(place, place - 1);
            }
            count--;
        }

        private void move(int from, int to) {
            fool[to] = fool[from];
            joke[to] = joke[from];
            throne[to] = throne[from];
            hour[to] = hour[from];
        }
    }

    /** All that changes can change; it is copied as a whole for undo, the snapshot, runs and the forecast. */
    private static final class Court {
        final Fools fools = new Fools();
        final Jokes jokes = new Jokes();
        final Bookings bookings = new Bookings();
        final int[] exempt = new int[THRONES];
        final int[] paid = new int[THRONES];
        int hour = 0;
        int brought = 0;
        int union = 0;
        int lost = 0;
        int carriedOut = 0;

        void take(Court other) {
            fools.take(other.fools);
            jokes.take(other.jokes);
            bookings.take(other.bookings);
            copy(other.exempt, exempt);
            copy(other.paid, paid);
            hour = other.hour;
            brought = other.brought;
            union = other.union;
            lost = other.lost;
            carriedOut = other.carriedOut;
        }

        // ---- patents

        /** A joke that was never patented has the end 0, which no hour is below. */
        boolean holds(int joke) {
            return hour < jokes.end[joke];
        }

        boolean isBarred(int fool, int joke) {
            return holds(joke) && jokes.owner[joke] != fool;
        }

        int patents() {
            int found = 0;
            for (int joke = 0; joke < jokes.count; joke++) {
                if (holds(joke)) {
                    found++;
                }
            }
            return found;
        }

        int patentsOf(int fool) {
            int found = 0;
            for (int joke = 0; joke < jokes.count; joke++) {
                if (holds(joke) && jokes.owner[joke] == fool) {
                    found++;
                }
            }
            return found;
        }

        int endJokeByJoke() {
            int soonest = NOTHING;
            for (int joke = 0; joke < jokes.count; joke++) {
                if (holds(joke) && (soonest == NOTHING || jokes.end[joke] < soonest)) {
                    soonest = jokes.end[joke];
                }
            }
            return soonest;
        }

        int endHourByHour() {
            for (int ahead = 1; ahead <= MOST_PATENT_HOURS; ahead++) {
                if (doesAnyEndAt(hour + ahead)) {
                    return hour + ahead;
                }
            }
            return NOTHING;
        }

        private boolean doesAnyEndAt(int end) {
            for (int joke = 0; joke < jokes.count; joke++) {
                if (jokes.end[joke] == end) {
                    return true;
                }
            }
            return false;
        }

        // ---- laughs

        private int laughs(int fool, int joke, int throne) {
            int tedium = LAUGHS_LOST_A_TELLING * jokes.toldAt(joke, throne);
            return Math.max(0, jokes.wit[joke] + fools.skill[fool] - tedium);
        }

        int laughsNow(int fool, int joke, int throne) {
            if (exempt[throne] == 1 || isBarred(fool, joke)) {
                return 0;
            }
            return laughs(fool, joke, throne);
        }

        int bestJokeByJoke(int fool, int throne) {
            int best = NOTHING;
            int most = 0;
            for (int joke = 0; joke < jokes.count; joke++) {
                int laughs = laughsNow(fool, joke, throne);
                if (laughs > most) {
                    best = joke;
                    most = laughs;
                }
            }
            return best;
        }

        /** Goes on while a wit could do as well, since of several jokes the lowest counts. */
        int bestByWit(int fool, int throne) {
            int best = NOTHING;
            int most = 0;
            for (int wit = MOST_WIT; wit >= 1 && wit + fools.skill[fool] >= most; wit--) {
                for (int joke = 0; joke < jokes.count; joke++) {
                    int laughs = jokes.wit[joke] == wit ? laughsNow(fool, joke, throne) : 0;
                    boolean isLower = laughs == most && joke < best;
                    if (laughs > most || isLower) {
                        best = joke;
                        most = laughs;
                    }
                }
            }
            return best;
        }

        // ---- bookings

        int placeFor(int fool, int joke, int atHour) {
            int place = 0;
            while (place < bookings.count && isAhead(place, fool, joke, atHour)) {
                place++;
            }
            return place;
        }

        private boolean isAhead(int place, int fool, int joke, int atHour) {
            if (bookings.hour[place] != atHour) {
                return bookings.hour[place] < atHour;
            }
            int itsWit = jokes.wit[bookings.joke[place]];
            if (itsWit != jokes.wit[joke]) {
                return itsWit > jokes.wit[joke];
            }
            return bookings.fool[place] < fool;
        }

        /** Carries the first booking out, which must be there, and returns its laughs. */
        int carryFirstOut() {
            int fool = bookings.fool[0];
            int joke = bookings.joke[0];
            int throne = bookings.throne[0];
            hour = bookings.hour[0];
            bookings.removeFirst();
            carriedOut++;
            if (exempt[throne] == 1) {
                return 0;
            }
            if (isBarred(fool, joke)) {
                payFine(fool, jokes.owner[joke]);
                return 0;
            }
            return perform(fool, joke, throne);
        }

        private int perform(int fool, int joke, int throne) {
            int laughs = laughs(fool, joke, throne);
            jokes.addTelling(joke, throne);
            fools.told[fool]++;
            if (laughs >= LAUGHS_WITHOUT_SLIP) {
                paid[throne] += laughs;
                gain(fool, laughs);
                fools.tears[fool] += Math.max(0, laughs - LAUGHS_WITHOUT_TEAR);
                return laughs;
            }
            fools.slips[fool]++;
            if (fools.insured[fool] > 0) {
                fools.insured[fool]--;
            } else {
                payUnion(fool, SLIP_FINE);
            }
            return laughs;
        }

        // ---- coins

        /** Pays as many of the coins as there are, and returns how many. */
        int payUnion(int fool, int coins) {
            int paidCoins = Math.min(coins, fools.coins[fool]);
            fools.coins[fool] -= paidCoins;
            union += paidCoins;
            return paidCoins;
        }

        private void payFine(int fool, int owner) {
            int paidCoins = Math.min(PATENT_FINE, fools.coins[fool]);
            fools.coins[fool] -= paidCoins;
            gain(owner, paidCoins);
        }

        private void gain(int fool, int coins) {
            int kept = Math.min(coins, MOST_COINS - fools.coins[fool]);
            fools.coins[fool] += kept;
            lost += coins - kept;
        }
    }

    /** The latest changes, each kept as the court before it, in rows that are made once. */
    private static final class History {
        int count = 0;
        private int nextSlot = 0;
        private final Court[] slots = new Court[MOST_CHANGES_KEPT];

        History() {
            for (int slot = 0; slot < MOST_CHANGES_KEPT; slot++) {
                slots[slot] = new Court();
            }
        }

        void keep(Court court) {
            slots[nextSlot].take(court);
            nextSlot = (nextSlot + 1) % MOST_CHANGES_KEPT;
            count = Math.min(count + 1, MOST_CHANGES_KEPT);
        }

        /** Gives the latest back, which must be there. */
        void giveLatestBack(Court court) {
            nextSlot = (nextSlot + MOST_CHANGES_KEPT - 1) % MOST_CHANGES_KEPT;
            count--;
            court.take(slots[nextSlot]);
        }

        void forgetAll() {
            count = 0;
        }
    }

    /** A text, and its orders once it is read; where reading stops short, its place is the fault position. */
    private static final class OrderText {
        /** A text of the most characters holds at most so many orders with ";" between them. */
        private static final int MOST_ORDERS = MOST_CHARACTERS / 2;
        private static final int MOST_NUMBERS = 4;

        final StringBuilder signs = new StringBuilder();
        int count = 0;
        int place = 0;
        private int numbersRead = 0;
        private final char[] letters = new char[MOST_ORDERS];
        private final int[] numbers = new int[MOST_ORDERS * MOST_NUMBERS];

        char letter(int order) {
            return letters[order];
        }

        int number(int order, int index) {
            return numbers[order * MOST_NUMBERS + index];
        }

        boolean read() {
            count = 0;
            place = 0;
            while (count < MOST_ORDERS) {
                if (!readOrder()) {
                    return false;
                }
                count++;
                if (place == signs.length()) {
                    return true;
                }
                if (!readSign(';')) {
                    return false;
                }
            }
            return false;
        }

        private boolean readOrder() {
            if (place >= signs.length()) {
                return false;
            }
            char letter = signs.charAt(place);
            String shape = shapeOf(letter);
            if (shape.isEmpty()) {
                return false;
            }
            letters[count] = letter;
            numbersRead = 0;
            for (int index = 0; index < shape.length(); index++) {
                if (!readPart(shape.charAt(index))) {
                    return false;
                }
            }
            return true;
        }

        /** In a shape, 1 is a digit, 2 one or two digits, ? "+" or "-", and all else is itself. */
        private static String shapeOf(char letter) {
            switch (letter) {
                case 'f': return "f1";
                case 'j': return "j1";
                case 'p': return "p1:2*2";
                case 'b': return "b1:2@1=2";
                case 'n': return "n";
                case 'i': return "i1";
                case 'a': return "a1";
                case 'x': return "x1?";
                case 'w': return "w2";
                default: return "";
            }
        }

        private boolean readPart(char part) {
            switch (part) {
                case '1': return readNumber(1);
                case '2': return readNumber(2);
                case '?': return readPlusOrMinus();
                default: return readSign(part);
            }
        }

        private boolean readNumber(int mostDigits) {
            int number = 0;
            int digits = 0;
            while (digits < mostDigits && isDigitAhead()) {
                number = 10 * number + (signs.charAt(place) - '0');
                place++;
                digits++;
            }
            keepNumber(number);
            return digits > 0;
        }

        private boolean isDigitAhead() {
            return place < signs.length() && signs.charAt(place) >= '0' && signs.charAt(place) <= '9';
        }

        private boolean readPlusOrMinus() {
            if (readSign('+')) {
                keepNumber(1);
                return true;
            }
            keepNumber(0);
            return readSign('-');
        }

        private boolean readSign(char sign) {
            if (place >= signs.length() || signs.charAt(place) != sign) {
                return false;
            }
            place++;
            return true;
        }

        private void keepNumber(int number) {
            if (numbersRead < MOST_NUMBERS) {
                numbers[count * MOST_NUMBERS + numbersRead] = number;
                numbersRead++;
            }
        }
    }
}
