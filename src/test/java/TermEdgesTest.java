/** The terms, a test for each sentence that names a boundary, with the promise in which it shows. */
public final class TermEdgesTest {
    public static void main(String[] args) {
        patentedIsToldByOneFool();
        roundedDown();
        mostFools();
        atFirst();
        mostCoins();
        mostJokes();
        patentHolds();
        patentBarsOthers();
        thrones();
        laughs();
        hourAtFirst();
        mostBookings();
        oneBookingAnHour();
        becomesItsHour();
        exemptThen();
        patentFine();
        fineWithoutCoins();
        slipOrNot();
        slipFine();
        insuredSlip();
        tears();
        patentCost();
        insuranceCost();
        auditCost();
        firstOfTheReasons();
        refusalsChangeNothing();
        otherCodesChangeNothing();
        codesInTheirOrder();
        changes();
        noChanges();
        latestEight();
        nothingDifferent();
        neitherUndoneNorSaved();
        slipIsToldToo();
        bringsTenCoins();
        patentLookedAtTwice();
        hourThatItIs();
        upToTheNextBooking();
        forecastAlone();
        patentAnew();
        finesLost();
        tediousForAll();
        paidWithWhatWasLost();
        tooFewCoins();
        slipReturnsLaughs();
        lastCallOfAll();
        Due.finish();
    }

    /** Three fools, of whom the first got 99 coins at the thrones and has so many left. */
    private static JesterUnion rich(int coins) {
        JesterUnion x = Due.union(Due.row(9, 9, 1), Due.row(9, 9, 8, 7, 5, 5, 5));
        for (int throne = 0; throne < 4; throne++) {
            Due.perform(x, 0, 0, throne);
        }
        Due.perform(x, 0, 2, 0);
        Due.leave(x, 0, coins);
        return x;
    }

    // ---- fools, jokes, thrones

    private static void patentedIsToldByOneFool() {
        Due.terms(4, "A joke patented is told by one fool");
        JesterUnion x = Due.full(5, 5);
        x.patent(3, 7, 1);
        for (int fool = 0; fool < 6; fool++) {
            Due.due("would(" + fool + ", 7, 0)", x.would(fool, 7, 0), fool == 3 ? 10 : 0);
            Due.due("would(" + fool + ", 6, 0)", x.would(fool, 6, 0), 10);
        }
        x.pass(1);
        for (int fool = 0; fool < 6; fool++) {
            Due.due("would(" + fool + ", 7, 0) when it has ended", x.would(fool, 7, 0), 10);
        }
    }

    private static void roundedDown() {
        Due.terms(6, "All numbers are whole, but two, and are rounded down if nothing else is said");
        for (int tears = 3; tears <= 7; tears++) {
            JesterUnion x = Due.union(Due.row(9), Due.row(tears + 2));
            Due.perform(x, 0, 0, 0);
            Due.due("an audit of " + tears + " tears", x.audit(0), tears / 3);
            Due.due("the tears that stay", x.foolOf(0, 2), tears % 3);
        }
    }

    private static void mostFools() {
        Due.terms(2, "At most 6 fools are there, numbered from 0, each with a skill from 1 to 9");
        JesterUnion x = new JesterUnion();
        Due.dueBad("a skill of 0", x.fool(0));
        Due.dueBad("a skill of 10", x.fool(10));
        Due.due("a skill of 1", x.fool(1), 0);
        Due.due("a skill of 9", x.fool(9), 1);
        for (int fool = 2; fool < 6; fool++) {
            Due.due("one more", x.fool(5), fool);
        }
        Due.dueRefused("a seventh", x, x.fool(5), 1, 6);
    }

    private static void atFirst() {
        Due.terms(7, "at first 10, tears, at first 0, and a number of slips from 0 to 3 for which the fool is insured, "
            + "at first 0");
        JesterUnion x = Due.full(5, 5);
        for (int fool = 0; fool < 6; fool++) {
            Due.due("the coins", x.foolOf(fool, 1), 10);
            Due.due("the tears", x.foolOf(fool, 2), 0);
            Due.due("the slips", x.foolOf(fool, 3), 0);
        }
        for (int slips = 1; slips <= 3; slips++) {
            Due.due("insured", x.insure(5), slips);
        }
        Due.dueRefused("for a fourth", x, x.insure(5), 8, 3);
        Due.due("for three", x.foolOf(5, 3), 3);
    }

    private static void mostCoins() {
        Due.terms(13, "What would be above 99 coins is lost");
        JesterUnion x = rich(99);
        Due.due("99 and none lost", x.account(8), 0);
        Due.perform(x, 0, 3, 1);
        Due.due("16 more", x.foolOf(0, 1), 99);
        Due.due("are lost", x.account(8), 16);
        x = rich(83);
        Due.perform(x, 0, 3, 1);
        Due.due("83 and 16", x.foolOf(0, 1), 99);
        Due.due("of which none are lost", x.account(8), 0);
        x = rich(84);
        Due.perform(x, 0, 3, 1);
        Due.due("84 and 16", x.foolOf(0, 1), 99);
        Due.due("of which 1 is lost", x.account(8), 1);
        x = rich(82);
        Due.perform(x, 0, 3, 1);
        Due.due("82 and 16", x.foolOf(0, 1), 98);
        Due.due("of which still none are lost", x.account(8), 0);
    }

    private static void mostJokes() {
        Due.terms(3, "At most 12 jokes are there, numbered from 0, each with a wit from 1 to 9");
        JesterUnion x = new JesterUnion();
        Due.dueBad("a wit of 0", x.joke(0));
        Due.dueBad("a wit of 10", x.joke(10));
        Due.due("a wit of 1", x.joke(1), 0);
        Due.due("a wit of 9", x.joke(9), 1);
        for (int joke = 2; joke < 12; joke++) {
            Due.due("one more", x.joke(5), joke);
        }
        Due.dueRefused("a thirteenth", x, x.joke(5), 1, 12);
    }

    private static void patentHolds() {
        Due.terms(8, "a patent holds as long as the hour that it is, is less than that hour");
        JesterUnion x = Due.union(Due.row(5, 5), Due.row(5));
        Due.due("by none at first", x.jokeOf(0, 1), JesterUnion.NOTHING);
        x.pass(2);
        x.patent(1, 0, 3);
        for (int hour = 2; hour < 5; hour++) {
            Due.due("in the hour " + hour, x.jokeOf(0, 1), 1);
            Due.due("the patents in the hour " + hour, x.account(12), 1);
            x.pass(1);
        }
        Due.due("in the hour in which it ends", x.jokeOf(0, 1), JesterUnion.NOTHING);
        Due.due("the patents in the hour in which it ends", x.account(12), 0);
    }

    private static void patentBarsOthers() {
        Due.terms(13, "While a joke is patented, no other fool may tell it");
        JesterUnion x = Due.union(Due.row(5, 5), Due.row(5, 5));
        x.book(1, 0, 0, 4);
        x.book(1, 0, 0, 5);
        x.patent(0, 0, 5);
        Due.due("an hour before it ends", x.next(), 0);
        Due.due("it was not told", x.told(0, 0), 0);
        Due.due("in the hour in which it ends", x.next(), 10);
        Due.due("it was told", x.told(0, 0), 1);
        x.patent(0, 1, 1);
        Due.due("by that fool", Due.perform(x, 0, 1, 0), 10);
    }

    private static void thrones() {
        Due.terms(10, "There are the thrones 0 to 3, each exempt or, as at first, not");
        JesterUnion x = new JesterUnion();
        Due.dueNone("throne -1", x.throneOf(-1, 0));
        for (int throne = 0; throne <= 3; throne++) {
            Due.due("throne " + throne, x.throneOf(throne, 0), 0);
            x.exempt(throne, 1);
            Due.due("throne " + throne + ", exempt", x.throneOf(throne, 0), 1);
        }
        Due.dueNone("throne 4", x.throneOf(4, 0));
    }

    private static void laughs() {
        Due.terms(16, "less 2 for each time that it was told at that throne so far, but not below 0");
        JesterUnion odd = Due.union(Due.row(2), Due.row(3));
        JesterUnion even = Due.union(Due.row(3), Due.row(3));
        for (int told = 0; told < 5; told++) {
            Due.due("5 after " + told, odd.would(0, 0, 2), Math.max(0, 5 - 2 * told));
            Due.due("5 laughs after " + told, Due.perform(odd, 0, 0, 2), Math.max(0, 5 - 2 * told));
            Due.due("6 after " + told, even.would(0, 0, 2), Math.max(0, 6 - 2 * told));
            Due.due("6 laughs after " + told, Due.perform(even, 0, 0, 2), Math.max(0, 6 - 2 * told));
        }
        Due.due("5 at another throne", odd.would(0, 0, 1), 5);
        JesterUnion most = Due.union(Due.row(9, 1), Due.row(9, 1));
        Due.due("the most", most.would(0, 0, 0), 18);
        Due.due("the least at first", most.would(1, 1, 0), 2);
    }

    // ---- bookings

    private static void hourAtFirst() {
        Due.terms(30, "It is an hour, at first 0");
        JesterUnion x = new JesterUnion();
        Due.due("at first", x.account(3), 0);
        x.pass(1);
        Due.due("then", x.account(3), 1);
    }

    private static void mostBookings() {
        Due.terms(12, "A booking lets a fool tell a joke at a throne in an hour; at most 10 wait");
        JesterUnion x = Due.full(5, 5);
        for (int place = 0; place < 10; place++) {
            Due.due("there is room", x.book(place % 6, place, place % 4, 10 + place), place);
        }
        Due.dueRefused("for an eleventh there is none", x, x.book(0, 0, 0, 98), 1, 10);
        x.next();
        Due.due("then there is", x.book(0, 0, 0, 98), 9);
    }

    private static void oneBookingAnHour() {
        Due.terms(12, "A fool has at most one booking for an hour");
        JesterUnion x = Due.union(Due.row(5, 5), Due.row(5, 5));
        x.book(0, 1, 0, 9);
        Due.dueRefused("another joke at another throne", x, x.book(0, 0, 1, 9), 5, 1);
        Due.due("in the hour before", x.book(0, 0, 1, 8), 0);
        Due.due("in the hour behind", x.book(0, 0, 1, 10), 2);
        Due.due("another fool", x.book(1, 0, 1, 9), 2);
    }

    // ---- telling

    private static void becomesItsHour() {
        Due.terms(13, "When a booking is carried out, it becomes its hour");
        JesterUnion x = Due.union(Due.row(5, 5), Due.row(5, 5));
        for (int hour : Due.row(0, 1, 7, 8, 99)) {
            x.book(0, 0, hour == 7 ? 1 : 0, hour);
        }
        x.exempt(1, 1);
        for (int hour : Due.row(0, 1, 7, 8, 99)) {
            x.next();
            Due.due("the hour", x.account(3), hour);
        }
    }

    private static void exemptThen() {
        Due.terms(13, "If the throne is exempt then, nothing else happens: the fool is sent away");
        JesterUnion x = Due.union(Due.row(9, 1), Due.row(9, 1));
        x.book(0, 0, 1, 1);
        x.book(1, 1, 1, 1);
        x.book(1, 0, 1, 2);
        x.book(1, 1, 1, 3);
        x.patent(0, 0, 9);
        x.insure(1);
        x.exempt(1, 1);
        for (int turn = 0; turn < 3; turn++) {
            Due.due("no laughs", x.next(), 0);
        }
        Due.due("no coins for 18 laughs", x.foolOf(0, 1), 10 - 5);
        Due.due("no tears for 18 laughs", x.foolOf(0, 2), 0);
        Due.due("no fine for a joke that is patented, nor for a slip", x.foolOf(1, 1), 10 - 2);
        Due.due("insured for a slip still", x.foolOf(1, 3), 1);
        Due.due("no slips", x.account(11), 0);
        Due.due("none told", x.throneOf(1, 1), 0);
        Due.due("three carried out", x.account(10), 3);
        Due.due("the hour", x.account(3), 2);
        x.exempt(1, 0);
        Due.due("2 laughs when it is not exempt any more", x.next(), 2);
        Due.due("a slip", x.foolOf(1, 7), 1);
    }

    private static void patentFine() {
        Due.terms(13, "the fool pays that one 2 coins, as far as there are so many");
        for (int coins = 0; coins <= 3; coins++) {
            JesterUnion x = Due.union(Due.row(5, 5, 5), Due.row(5, 5));
            x.book(1, 0, 0, 1);
            x.patent(2, 0, 2);
            Due.leave(x, 1, coins);
            int union = x.account(7);
            Due.due("not told", x.next(), 0);
            Due.due("paid of " + coins, x.foolOf(1, 1), Math.max(0, coins - 2));
            Due.due("to that one", x.foolOf(2, 1), 9 + Math.min(2, coins));
            Due.due("not to the first", x.foolOf(0, 1), 10);
            Due.due("not to the union", x.account(7), union);
            Due.due("it is not told", x.told(0, 0), 0);
            Due.due("no slip", x.foolOf(1, 7), 0);
        }
    }

    private static void fineWithoutCoins() {
        Due.terms(13, "If the joke is patented by another fool then");
        JesterUnion x = Due.union(Due.row(5, 5), Due.row(5));
        x.book(0, 0, 0, 1);
        x.book(1, 0, 0, 1);
        x.book(1, 0, 0, 2);
        x.patent(0, 0, 2);
        Due.due("by that fool", x.next(), 10);
        Due.due("by another, an hour before it ends", x.next(), 0);
        Due.due("the fine", x.foolOf(1, 1), 8);
        Due.due("in the hour in which it ends", x.next(), 8);
        Due.due("no fine", x.foolOf(1, 1), 16);
    }

    private static void slipOrNot() {
        Due.terms(13, "With fewer than 5 laughs it is a slip");
        for (int laughs = 2; laughs <= 8; laughs++) {
            JesterUnion x = Due.union(Due.row(1), Due.row(laughs - 1));
            Due.due("the laughs", Due.perform(x, 0, 0, 0), laughs);
            Due.due("slips with " + laughs, x.foolOf(0, 7), laughs < 5 ? 1 : 0);
            Due.due("coins with " + laughs, x.foolOf(0, 1), laughs < 5 ? 7 : 10 + laughs);
            Due.due("paid by the throne with " + laughs, x.throneOf(0, 2), laughs < 5 ? 0 : laughs);
        }
    }

    private static void slipFine() {
        Due.terms(13, "the fool pays 3 coins to the union, as far as there are so many");
        for (int coins = 0; coins <= 4; coins++) {
            JesterUnion x = Due.union(Due.row(1), Due.row(1, 1));
            Due.leave(x, 0, coins);
            int union = x.account(7);
            Due.due("2 laughs", Due.perform(x, 0, 0, 0), 2);
            Due.due("paid of " + coins, x.foolOf(0, 1), Math.max(0, coins - 3));
            Due.due("to the union", x.account(7), union + Math.min(3, coins));
            Due.due("a slip", x.foolOf(0, 7), 1);
        }
    }

    private static void insuredSlip() {
        Due.terms(13, "or, if insured, is so for 1 slip less");
        for (int insured = 0; insured <= 3; insured++) {
            JesterUnion x = Due.union(Due.row(1), Due.row(4, 3));
            for (int slip = 0; slip < insured; slip++) {
                x.insure(0);
            }
            int coins = x.foolOf(0, 1);
            Due.due("5 laughs", Due.perform(x, 0, 0, 0), 5);
            Due.due("insured as before", x.foolOf(0, 3), insured);
            Due.due("4 laughs", Due.perform(x, 0, 1, 0), 4);
            Due.due("insured for 1 less of " + insured, x.foolOf(0, 3), Math.max(0, insured - 1));
            Due.due("the coins", x.foolOf(0, 1), coins + 5 - (insured == 0 ? 3 : 0));
            Due.due("the throne pays nothing", x.throneOf(0, 2), 5);
        }
    }

    private static void tears() {
        Due.terms(13, "the throne pays as many coins as there are laughs, and the fool gets a tear for each laugh "
            + "above 11");
        for (int laughs = 10; laughs <= 18; laughs++) {
            JesterUnion x = Due.union(Due.row(9), Due.row(laughs - 9));
            Due.due("the laughs", Due.perform(x, 0, 0, 0), laughs);
            Due.due("the tears with " + laughs, x.foolOf(0, 2), laughs <= 11 ? 0 : laughs - 11);
            Due.due("the coins with " + laughs, x.foolOf(0, 1), 10 + laughs);
            Due.due("paid with " + laughs, x.throneOf(0, 2), laughs);
        }
    }

    // ---- the union

    private static void patentCost() {
        Due.terms(4, "A patent costs 1 coin for each 2 hours, rounded up");
        for (int hours = 1; hours <= 48; hours++) {
            JesterUnion x = rich(99);
            int cost = hours % 2 == 0 ? hours / 2 : hours / 2 + 1;
            Due.due("the end of " + hours, x.patent(0, 0, hours), hours);
            Due.due("the coins after " + hours, x.foolOf(0, 1), 99 - cost);
            Due.due("the coins of the union after " + hours, x.account(7), cost);
        }
    }

    private static void insuranceCost() {
        Due.terms(5, "insurance for 1 slip 2 coins");
        JesterUnion x = Due.union(Due.row(5), Due.row(5));
        Due.leave(x, 0, 3);
        int union = x.account(7);
        x.insure(0);
        Due.due("the coins", x.foolOf(0, 1), 1);
        Due.due("the coins of the union", x.account(7), union + 2);
    }

    private static void auditCost() {
        Due.terms(6, "In an audit a fool pays 1 coin for each 3 tears, as far as there are so many coins, and has 3 "
            + "tears less for each coin paid");
        for (int coins = 1; coins <= 12; coins++) {
            JesterUnion x = Due.union(Due.row(9), Due.row(9, 8, 7, 5, 5, 5));
            for (int throne = 0; throne < 4; throne++) {
                Due.perform(x, 0, 0, throne);
            }
            Due.due("the tears", x.foolOf(0, 2), 28);
            Due.leave(x, 0, coins);
            int union = x.account(7);
            int paid = Math.min(9, coins);
            Due.due("28 tears and " + coins + " coins", x.audit(0), paid);
            Due.due("the tears that stay", x.foolOf(0, 2), 28 - 3 * paid);
            Due.due("the coins that stay", x.foolOf(0, 1), coins - paid);
            Due.due("the coins of the union", x.account(7), union + paid);
        }
    }

    // ---- reasons, codes, changes

    private static void firstOfTheReasons() {
        Due.terms(12, "Something is refused for the first of the reasons that its method names, in the order in which "
            + "it names them");
        JesterUnion x = Due.union(Due.row(5, 5), Due.row(5, 5));
        x.pass(4);
        for (int hour = 4; hour < 14; hour++) {
            x.book(0, 0, 0, hour);
        }
        x.patent(1, 1, 9);
        x.exempt(3, 1);
        Due.dueRefused("2, 4, 3 and 1", x, x.book(0, 1, 3, 3), 2, 4);
        Due.dueRefused("4, 3, 5 and 1", x, x.book(0, 1, 3, 4), 4, 3);
        Due.dueRefused("3, 5 and 1", x, x.book(0, 1, 0, 4), 3, 1);
        Due.dueRefused("5 and 1", x, x.book(0, 0, 0, 4), 5, 0);
        Due.dueRefused("1", x, x.book(1, 0, 0, 4), 1, 10);
    }

    /** All that calls tell, but for the reason, and the line as it is. */
    private static String everything(JesterUnion x) {
        return Due.state(x) + x.account(13) + " " + x.account(14) + " " + Due.line(x);
    }

    /** With a joke that was told, another that is patented, a throne that is exempt, a booking, a text and a line. */
    private static JesterUnion busy() {
        JesterUnion x = Due.union(Due.row(9, 1), Due.row(3, 2));
        Due.perform(x, 0, 0, 0);
        x.patent(1, 1, 20);
        x.exempt(3, 1);
        x.pass(2);
        x.book(0, 0, 0, 2);
        x.append('n');
        x.tell(0);
        return x;
    }

    private static void refusalsChangeNothing() {
        Due.terms(29, "A call that returns a code leaves everything unchanged, except that run empties the text, and "
            + "that reasons are kept");
        JesterUnion x = busy();
        String before = everything(x);
        Due.dueRefused("patent", x, x.patent(0, 1, 1), 6, 1);
        Due.dueRefused("patent without coins", x, x.patent(1, 0, 1), 7, 0);
        Due.dueRefused("insure", x, x.insure(1), 7, 0);
        Due.dueRefused("audit", x, x.audit(0), 10, 1);
        Due.dueRefused("exempt", x, x.exempt(3, 1), 9, 1);
        Due.dueRefused("book in the past", x, x.book(0, 0, 0, 1), 2, 2);
        Due.dueRefused("book at an exempt throne", x, x.book(0, 0, 3, 5), 4, 3);
        Due.dueRefused("book what is patented", x, x.book(0, 1, 0, 5), 3, 1);
        Due.dueRefused("book twice", x, x.book(0, 0, 0, 2), 5, 0);
        Due.dueRefused("pass", x, x.pass(1), 5, 0);
        Due.dueText("all is as it was", everything(x), before);
        x = busy();
        x.append(';');
        x.append('n');
        Due.dueRefused("run", x, x.run(), 12, 1);
        x.append('n');
        Due.dueText("all but the text is as it was", everything(x), before);
    }

    private static void otherCodesChangeNothing() {
        Due.terms(25, "A call that returns a code leaves everything unchanged");
        JesterUnion x = busy();
        String before = everything(x);
        Due.dueBad("fool", x.fool(10));
        Due.dueBad("joke", x.joke(10));
        Due.dueNone("patent", x.patent(2, 0, 1));
        Due.dueBad("patent for 49", x.patent(0, 0, 49));
        Due.dueNone("insure", x.insure(2));
        Due.dueNone("audit", x.audit(2));
        Due.dueNone("exempt", x.exempt(4, 1));
        Due.dueBad("exempt by 2", x.exempt(0, 2));
        Due.dueNone("book", x.book(0, 0, 4, 5));
        Due.dueBad("book for 100", x.book(0, 0, 0, 100));
        Due.dueBad("pass", x.pass(25));
        Due.dueBad("append", x.append(127));
        Due.dueNone("tell", x.tell(2));
        Due.due("restore", x.restore(), JesterUnion.NOTHING);
        Due.dueText("all is as it was", everything(x), before);
        Due.due("no reason", x.reason(false), JesterUnion.NOTHING);
        x = busy();
        x.append(';');
        Due.due("run", x.run(), -2002);
        x.append('n');
        Due.dueText("all but the text is as it was", everything(x), before);
    }

    private static void codesInTheirOrder() {
        Due.terms(12, "If several codes apply, the one that is listed first is returned");
        JesterUnion x = busy();
        Due.dueNone("patent: NONE and BAD", x.patent(2, 0, 0));
        Due.dueNone("patent: NONE, though joke 1 is patented", x.patent(2, 1, 1));
        Due.dueBad("patent: BAD and the reason 6", x.patent(0, 1, 0));
        Due.dueBad("patent: BAD and the reason 7", x.patent(1, 0, 49));
        Due.dueNone("exempt: NONE and BAD", x.exempt(4, 2));
        Due.dueNone("book: NONE and BAD", x.book(2, 0, 0, 100));
        Due.dueNone("book: NONE and the reason 2", x.book(0, 2, 0, 1));
        Due.dueNone("book: NONE and the reason 4", x.book(0, 2, 3, 5));
        Due.dueBad("book: BAD and the reason 2", x.book(0, 0, 0, -1));
        Due.dueBad("book: BAD and the reasons 4 and 3", x.book(0, 1, 3, 100));
        Due.dueBad("pass: BAD and the reason 5", x.pass(25));
        Due.dueNone("foolOf: NONE and BAD", x.foolOf(2, 8));
        Due.dueNone("jokeOf: NONE and BAD", x.jokeOf(2, 5));
        Due.dueNone("throneOf: NONE and BAD", x.throneOf(4, 4));
        Due.dueNone("booking: NONE and BAD", x.booking(1, 4));
        Due.dueNone("best: NONE, though no throne gives a laugh", x.best(2, 3));
        Due.dueNone("bestAgain: NONE, though no throne gives a laugh", x.bestAgain(2, 3));
        x = Due.full(5, 5);
        Due.dueBad("fool: BAD and the reason 1", x.fool(0));
        Due.dueBad("joke: BAD and the reason 1", x.joke(0));
    }

    private static void changes() {
        Due.terms(34, "The changes are the successful calls of fool, joke, patent, book, next, insure, audit, exempt, "
            + "pass and run");
        JesterUnion x = new JesterUnion();
        Due.due("fool", x.fool(9), 0);
        Due.due("1 change", x.account(14), 1);
        Due.due("joke", x.joke(9), 0);
        Due.due("2 changes", x.account(14), 2);
        Due.due("patent", x.patent(0, 0, 1), 1);
        Due.due("3 changes", x.account(14), 3);
        Due.due("book", x.book(0, 0, 0, 1), 0);
        Due.due("4 changes", x.account(14), 4);
        Due.due("next", x.next(), 18);
        Due.due("5 changes", x.account(14), 5);
        Due.due("insure", x.insure(0), 1);
        Due.due("6 changes", x.account(14), 6);
        Due.due("audit", x.audit(0), 2);
        Due.due("7 changes", x.account(14), 7);
        Due.due("exempt", x.exempt(0, 1), 1);
        Due.due("8 changes", x.account(14), 8);
        x.undo();
        x.undo();
        Due.due("pass", x.pass(1), 0);
        Due.due("7 changes again", x.account(14), 7);
        Due.due("run", Due.run(x, "w1"), 1);
        Due.due("8 changes again", x.account(14), 8);
    }

    private static void noChanges() {
        Due.terms(34, "The changes are the successful calls of");
        JesterUnion x = busy();
        for (int turn = 0; turn < 3; turn++) {
            x.undo();
        }
        int changes = x.account(14);
        Due.due("there is room for more", changes < 8 ? 1 : 0, 1);
        x.append('n');
        x.append('n');
        x.run();
        x.tell(0);
        x.tellBookings();
        x.forecast();
        x.isBalanced();
        x.save();
        x.would(0, 0, 0);
        x.best(0, 0);
        x.bestAgain(0, 0);
        x.ends();
        x.endsAgain();
        x.next();
        x.fool(0);
        Due.due("no change by calls that are none", x.account(14), changes);
    }

    private static void latestEight() {
        Due.terms(34, "The latest 8 can be undone");
        JesterUnion x = new JesterUnion();
        for (int change = 0; change < 8; change++) {
            x.pass(1);
        }
        for (int left = 7; left >= 0; left--) {
            Due.due("of eight", x.undo(), left);
        }
        Due.due("all are undone", x.account(3), 0);
        for (int change = 0; change < 9; change++) {
            x.pass(1);
        }
        for (int left = 7; left >= 0; left--) {
            Due.due("of nine", x.undo(), left);
        }
        Due.due("no ninth", x.undo(), JesterUnion.NOTHING);
        Due.due("the first of nine stays", x.account(3), 1);
    }

    private static void nothingDifferent() {
        Due.terms(34, "also those by which nothing is different");
        JesterUnion x = new JesterUnion();
        Due.due("a run to and fro", Due.run(x, "x0+;x0-"), 2);
        Due.due("1 change", x.account(14), 1);
        Due.due("a run to and fro again", Due.run(x, "x0+;x0-"), 2);
        Due.due("2 changes", x.account(14), 2);
        Due.due("undone", x.undo(), 1);
        Due.due("undone again", x.undo(), 0);
        Due.due("no more", x.undo(), JesterUnion.NOTHING);
    }

    private static void neitherUndoneNorSaved() {
        Due.terms(36, "The text, the line, the reason and its detail are neither undone nor saved, and stay");
        JesterUnion x = Due.union(Due.row(5), Due.row(5));
        x.append('w');
        x.tell(0);
        x.next();
        x.save();
        x.append('1');
        x.book(0, 0, 0, 5);
        x.tellBookings();
        Due.dueRefused("the reason then", x, x.exempt(3, 0), 9, 0);
        x.undo();
        Due.due("the text is not undone", x.account(13), 2);
        Due.dueText("the line is not undone", Due.line(x), "0:0@0=5");
        Due.due("the reason is not undone", x.reason(false), 9);
        Due.due("the detail is not undone", x.reason(true), 0);
        x.restore();
        Due.due("the text is not restored", x.account(13), 2);
        Due.dueText("the line is not restored", Due.line(x), "0:0@0=5");
        Due.due("the reason is not restored", x.reason(false), 9);
        Due.due("the detail is not restored", x.reason(true), 0);
        Due.due("the text can be run", x.run(), 1);
        x.undo();
        Due.due("the text is empty, though the run is undone", x.account(13), 0);
    }

    // ---- in doubt

    private static void slipIsToldToo() {
        Due.terms(13, "A slip is a joke that is told, too, and makes the joke more tedious");
        JesterUnion x = Due.union(Due.row(1), Due.row(3));
        Due.due("a slip", Due.perform(x, 0, 0, 0), 4);
        Due.due("told at the throne", x.throneOf(0, 1), 1);
        Due.due("told by the fool", x.foolOf(0, 6), 1);
        Due.due("the joke was told", x.jokeOf(0, 3), 1);
        Due.due("more tedious", x.would(0, 0, 0), 2);
    }

    private static void bringsTenCoins() {
        Due.terms(2, "A fool brings 10 coins by coming");
        JesterUnion x = new JesterUnion();
        for (int fools = 1; fools <= 6; fools++) {
            x.fool(5);
            Due.due("brought by " + fools, x.account(5), 10 * fools);
            Due.due("the coins of " + fools, x.account(4), 10 * fools);
        }
        x.fool(5);
        Due.due("not by one that is refused", x.account(5), 60);
        x.undo();
        Due.due("not by one that is undone", x.account(5), 50);
    }

    private static void patentLookedAtTwice() {
        Due.terms(12, "The patent of a joke is looked at as it is booked, and again as it is told");
        JesterUnion x = Due.union(Due.row(5, 5), Due.row(5, 5));
        x.patent(1, 0, 3);
        Due.dueRefused("as it is booked, though it would have ended", x, x.book(0, 0, 0, 3), 3, 1);
        x.book(0, 1, 0, 3);
        x.patent(1, 1, 4);
        Due.due("as it is told, though it was booked before", x.next(), 0);
        Due.due("the fine", x.foolOf(0, 1), 8);
    }

    private static void hourThatItIs() {
        Due.terms(12, "Bookings for the hour that it is can still come");
        JesterUnion x = Due.union(Due.row(5, 5), Due.row(5, 6));
        x.book(0, 0, 0, 6);
        x.next();
        Due.due("the hour that it is", x.book(0, 0, 0, 6), 0);
        Due.due("with more wit", x.book(1, 1, 0, 6), 0);
        Due.dueRefused("the hour before", x, x.book(1, 1, 0, 5), 2, 6);
        Due.due("the one with more wit", x.next(), 11);
        Due.due("the other", x.next(), 8);
        Due.due("the hour", x.account(3), 6);
    }

    private static void upToTheNextBooking() {
        Due.terms(14, "Hours can pass up to the hour of the next booking, not beyond");
        for (int hours = 1; hours <= 24; hours++) {
            JesterUnion x = Due.union(Due.row(5), Due.row(5, 5));
            x.pass(2);
            x.book(0, 1, 0, 2 + hours);
            if (hours < 24) {
                Due.dueRefused("beyond, by " + (hours + 1), x, x.pass(hours + 1), 5, 1);
            }
            Due.due("up to it, by " + hours, x.pass(hours), 0);
            Due.due("the hour", x.account(3), 2 + hours);
            Due.dueRefused("beyond by 1", x, x.pass(1), 5, 1);
        }
    }

    private static void forecastAlone() {
        Due.terms(21, "and by their hours patents end");
        JesterUnion x = Due.union(Due.row(5, 5), Due.row(5));
        x.book(1, 0, 0, 5);
        x.patent(0, 0, 6);
        Due.due("an hour before it ends", x.forecast(), 0);
        x.undo();
        x.patent(0, 0, 5);
        Due.due("in the hour in which it ends", x.forecast(), 10);
        Due.due("so it comes", x.next(), 10);
    }

    private static void patentAnew() {
        Due.terms(4, "A patent that has ended can be had anew");
        JesterUnion x = Due.union(Due.row(5, 5), Due.row(5));
        x.patent(0, 0, 2);
        x.pass(1);
        Due.dueRefused("an hour before it ends", x, x.patent(1, 0, 2), 6, 0);
        x.pass(1);
        Due.due("by another", x.patent(1, 0, 2), 4);
        x.pass(2);
        Due.due("by the first", x.patent(0, 0, 2), 6);
        Due.due("whose it is", x.jokeOf(0, 1), 0);
    }

    private static void finesLost() {
        Due.terms(13, "Coins paid to another fool that are above 99 are lost");
        for (int coins = 96; coins <= 99; coins++) {
            for (int payer = 0; payer <= 3; payer++) {
                dueFine(coins, payer);
            }
        }
    }

    /** Whoever has a patent paid a coin for it at least, and so has to earn the 99th anew. */
    private static void dueFine(int coins, int payer) {
        String call = " of " + payer + " to " + coins;
        JesterUnion x = rich(99);
        x.book(1, 1, 1, 1);
        x.patent(0, 1, 2 * Math.max(1, 99 - coins));
        if (coins == 99) {
            Due.perform(x, 0, 3, 0);
        }
        Due.leave(x, 1, payer);
        Due.due("the coins before a fine" + call, x.foolOf(0, 1), coins);
        int lost = x.account(8);
        Due.due("it is not told, by a fine" + call, x.next(), 0);
        int fine = Math.min(2, payer);
        Due.due("the coins after a fine" + call, x.foolOf(0, 1), Math.min(99, coins + fine));
        Due.due("what is lost by a fine" + call, x.account(8) - lost, Math.max(0, coins + fine - 99));
        Due.due("what is left by a fine" + call, x.foolOf(1, 1), payer - fine);
    }

    private static void tediousForAll() {
        Due.terms(16, "A joke is more tedious whichever fool told it there");
        JesterUnion x = Due.full(5, 5);
        for (int fool = 0; fool < 5; fool++) {
            Due.due("before fool " + fool, x.would(5, 0, 0), 10 - 2 * fool);
            Due.due("fool " + fool, Due.perform(x, fool, 0, 0), 10 - 2 * fool);
        }
        Due.due("after five", x.would(5, 0, 0), 0);
        Due.due("at another throne", x.would(5, 0, 1), 10);
    }

    private static void paidWithWhatWasLost() {
        Due.terms(10, "What a throne paid is told with what was lost");
        JesterUnion x = rich(99);
        Due.due("17 and 18 at throne 0", x.throneOf(0, 2), 35);
        Due.perform(x, 0, 3, 0);
        Due.due("16 more, all of them lost", x.throneOf(0, 2), 51);
        Due.due("lost", x.account(8), 16);
        Due.due("paid by all", x.account(6), 4 * 18 + 17 + 16);
    }

    private static void tooFewCoins() {
        Due.terms(29, "Too few coins are told by how many there are");
        for (int coins = 0; coins < 4; coins++) {
            JesterUnion x = Due.union(Due.row(5), Due.row(5, 5));
            Due.leave(x, 0, coins);
            Due.dueRefused("one too few, of " + coins, x, x.patent(0, 0, 2 * coins + 1), 7, coins);
            Due.dueRefused("many too few, of " + coins, x, x.patent(0, 0, 48), 7, coins);
            if (coins < 2) {
                Due.dueRefused("for insurance, of " + coins, x, x.insure(0), 7, coins);
            }
        }
    }

    private static void slipReturnsLaughs() {
        Due.terms(13, "A slip returns its laughs");
        JesterUnion x = Due.union(Due.row(1, 1), Due.row(3, 2, 1));
        Due.due("4", Due.perform(x, 0, 0, 0), 4);
        Due.due("3", Due.perform(x, 0, 1, 0), 3);
        Due.due("2", Due.perform(x, 0, 2, 0), 2);
        Due.due("1", Due.perform(x, 0, 1, 0), 1);
        Due.due("0", Due.perform(x, 0, 2, 0), 0);
        Due.due("slips", x.foolOf(0, 7), 5);
        x.insure(1);
        Due.due("2, insured", Due.perform(x, 1, 0, 0), 2);
    }

    /** An object is used for at most 512 calls: the last of them is answered as the first. */
    private static void lastCallOfAll() {
        Due.promise(14, "Lets hours pass");
        JesterUnion x = new JesterUnion();
        for (int call = 1; call <= 511; call++) {
            Due.due("call " + call, x.pass(24), 0);
        }
        Due.due("the last call", x.account(3), 511 * 24);
    }
}
