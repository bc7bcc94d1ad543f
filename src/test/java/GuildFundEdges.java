import java.util.ArrayList;
import java.util.List;

/**
 * A test for each sentence of the document that names a boundary case: the last value that is taken and the
 * first one that is refused. The sentence stands beside its test and is told when it does not hold. A refused
 * call is followed by all that can be asked, beside a twin that was not called.
 */
public final class GuildFundEdges {
    // As the document writes them: the constants of the class have a test of their own.
    private static final int UNKNOWN = -1;
    private static final int BAD_VALUE = -2;
    private static final int FULL = -3;
    private static final int NOT_POSSIBLE = -4;
    private static final int NONE = -5;

    private static final int BILLION = 1000000000;
    private static final int MAX = Integer.MAX_VALUE;
    private static final int MIN = Integer.MIN_VALUE;

    private static final int OPEN = 0;
    private static final int AHEAD = 1;
    private static final int SETTLED = 2;
    private static final int LOST = 3;

    private interface Setup {
        void on(GuildFund x);
    }

    private interface Call {
        int on(GuildFund x);
    }

    private interface Telling {
        float on(GuildFund x);
    }

    private static String sentence = "";
    private static int sentences = 0;
    private static int wrong = 0;

    private static void holds(String words, Runnable test) {
        sentence = words;
        sentences++;
        test.run();
    }

    private static void fault(String what) {
        wrong++;
        System.out.println("\"" + sentence + "\": " + what);
    }

    private static void due(String call, int got, int want) {
        if (got != want) fault(call + " answered " + got + ", due is " + want);
    }

    /** Floats are compared by their bits, so that 0.0f and -0.0f differ; a NaN is a NaN. */
    private static void due(String call, float got, float want) {
        if (Float.floatToIntBits(got) != Float.floatToIntBits(want)) fault(call + " answered " + got + ", due is " + want);
    }

    private static void same(String what, List<String> got, List<String> want) {
        for (int i = 0; i < Math.max(got.size(), want.size()); i++) {
            String one = i < got.size() ? got.get(i) : "nothing";
            String other = i < want.size() ? want.get(i) : "nothing";
            if (!one.equals(other)) {
                fault(what + ": " + one + ", due is " + other);
                return;
            }
        }
    }

    // ---- what can be seen of a fund

    /** The state, as the calls tell it: all but the text, the history, the snapshot and the refusal. */
    private static List<String> state(GuildFund x) {
        List<String> told = new ArrayList<>();
        for (int what = 0; what <= 13; what++) told.add("count(" + what + ") = " + x.count(what));
        for (int i = 0; i < 3; i++) {
            told.add("rate(" + i + ") = " + bits(x.rate(i)));
            told.add("number(" + i + ") = " + x.number(i));
        }
        for (int i = 0; i < x.count(4); i++) {
            for (int what = 0; what <= 5; what++) told.add("member(" + i + ", " + what + ") = " + x.member(i, what));
        }
        for (int i = 0; i < 6; i++) {
            for (int what = 0; what <= 3; what++) told.add("client(" + i + ", " + what + ") = " + x.client(i, what));
        }
        for (int i = 0; i < x.count(5); i++) {
            for (int what = 0; what <= 10; what++) told.add("invoice(" + i + ", " + what + ") = " + x.invoice(i, what));
        }
        return told;
    }

    /** What the calls answer that work something out of the state. */
    private static List<String> workedOut(GuildFund x) {
        List<String> told = new ArrayList<>();
        for (int i = 0; i < 6; i++) {
            told.add("risk(" + i + ") = " + bits(x.risk(i)));
            told.add("lateness(" + i + ") = " + bits(x.lateness(i)));
        }
        for (int i = 0; i < x.count(5); i++) {
            told.add("rateIn(" + i + ", 1) = " + bits(x.rateIn(i, 1)));
            told.add("worth(" + i + ") = " + bits(x.worth(i)));
        }
        told.add("best(0) = " + x.best(0));
        told.add("exposure() = " + bits(x.exposure()));
        return told;
    }

    private static List<String> refusal(GuildFund x) {
        return List.of("refusal(0) = " + x.refusal(0), "refusal(1) = " + x.refusal(1));
    }

    private static List<String> lengths(GuildFund x) {
        return List.of("count(14) = " + x.count(14), "count(15) = " + x.count(15));
    }

    /** Ways to look at what a fund holds: now, in its history, in its snapshot, and in its text. */
    private static final String[] VIEWS = {
        "at once", "after an undo", "after two undos", "after three undos", "after four undos", "after five undos",
        "after restore()", "after readPayments()", "after more payments",
    };

    private static List<String> seen(GuildFund x, int view, boolean refusalToo) {
        List<String> told = new ArrayList<>();
        if (view >= 1 && view <= 5) {
            for (int i = 0; i < view; i++) told.add("undo() = " + x.undo());
        }
        if (view == 6) told.add("restore() = " + x.restore());
        if (view == 8) {
            for (int i = 0; i < 3; i++) told.add("type() = " + x.type("0,1".charAt(i)));
        }
        if (view >= 7) told.add("readPayments() = " + x.readPayments());
        if (refusalToo) told.addAll(refusal(x));
        told.addAll(lengths(x));
        told.addAll(state(x));
        told.addAll(workedOut(x));
        return told;
    }

    // Each view is of an object of its own, as no object may be called more than 512 times.
    private static void leavesAll(String name, Setup setup, Call call, int want, boolean refusalToo) {
        for (int view = 0; view < VIEWS.length; view++) {
            GuildFund x = made(setup);
            GuildFund twin = made(setup);
            due(name, call.on(x), want);
            same(name + ", seen " + VIEWS[view], seen(x, view, refusalToo), seen(twin, view, refusalToo));
        }
    }

    /** A call that answers an error or NONE and changes nothing. */
    private static void refused(String name, Setup setup, Call call, int want) {
        leavesAll(name, setup, call, want, true);
    }

    /** A reading of which a payment is refused: it changes nothing but the latest refusal. */
    private static void refusedPayment(Setup setup, String text, int number, int error) {
        Setup typed = x -> {
            setup.on(x);
            typeAll(x, text);
        };
        String name = "readPayments() of " + text;
        leavesAll(name, typed, GuildFund::readPayments, NOT_POSSIBLE, false);
        GuildFund x = made(typed);
        x.readPayments();
        due(name + ", then refusal(0)", x.refusal(0), number);
        due(name + ", then refusal(1)", x.refusal(1), error);
    }

    /** A telling with a wrong argument: a NaN, and nothing changes. */
    private static void noNumber(String name, Setup setup, Telling telling) {
        leavesAll(name, setup, x -> Float.isNaN(telling.on(x)) ? NONE : 0, NONE, true);
    }

    /** A call that answers and records the state that was before it, once. */
    private static void oneAct(String name, Setup setup, Call call, int want) {
        GuildFund x = made(setup);
        GuildFund twin = made(setup);
        int states = twin.count(14);
        due(name, call.on(x), want);
        due(name + ", then count(14)", x.count(14), Math.min(4, states + 1));
        due(name + ", then undo()", x.undo(), Math.min(3, states));
        same(name + ", then undo()", state(x), state(twin));
        for (int i = 1; i <= 3 && i <= states; i++) {
            x.undo();
            twin.undo();
            same(name + ", then " + i + " undos more", List.of("day " + x.count(0), "balance " + x.count(1), "lost " + x.count(9)),
                List.of("day " + twin.count(0), "balance " + twin.count(1), "lost " + twin.count(9)));
        }
    }

    /** A call that answers and is no act: the state and the history are as they were. */
    private static void noAct(String name, Setup setup, Call call, int want) {
        for (int undos = 0; undos <= 5; undos++) {
            GuildFund x = made(setup);
            GuildFund twin = made(setup);
            due(name, call.on(x), want);
            for (int i = 0; i < undos; i++) due(name + ", then undo()", x.undo(), twin.undo());
            due(name + ", then count(14)", x.count(14), twin.count(14));
            same(name + ", then " + undos + " undos", state(x), state(twin));
        }
    }

    // ---- funds

    private static GuildFund made(Setup setup) {
        GuildFund x = new GuildFund();
        setup.on(x);
        return x;
    }

    private static int bits(float value) {
        return Float.floatToRawIntBits(value);
    }

    private static void typeAll(GuildFund x, String text) {
        x.clearText();
        for (int i = 0; i < text.length(); i++) x.type(text.charAt(i));
    }

    private static int read(GuildFund x, String text) {
        typeAll(x, text);
        return x.readPayments();
    }

    private static int balance(GuildFund x) {
        return x.count(1) - BILLION;
    }

    private static int purse(GuildFund x, int member) {
        return x.member(member, 2) - BILLION;
    }

    private static int borne(GuildFund x, int member) {
        return x.member(member, 5) - BILLION;
    }

    /**
     * Day 120, three members, an invoice in each state and one more that can be paid ahead; four states in the
     * history, a snapshot of day 14, a refusal, and a text that settles invoice 4. The offer for that one is 3199:
     * 0.9f - 0.005f * 20.0f is a little below 0.8f.
     */
    private static void busy(GuildFund x) {
        x.addMember(3);
        x.addMember(2);
        x.addMember(1);
        x.payDues(0, 500000);
        x.payDues(1, 200000);
        x.addInvoice(0, 2, 100000, 0);
        x.addInvoice(1, 2, 40001, 10);
        x.addInvoice(2, 3, 7000, 0);
        x.addInvoice(2, 4, 9000, 0);
        x.addInvoice(1, 5, 8000, 100);
        x.pass(14);
        x.pay(2, 7000);
        x.payAhead(0);
        x.keep();
        x.pass(10);
        x.payAhead(1);
        x.pass(96);
        x.giveUp(3);
        read(x, "2=1");
        typeAll(x, "4=8000");
    }

    /** As busy(), with one state in the history, and the snapshot of the same day. */
    private static void calm(GuildFund x) {
        busy(x);
        x.keep();
        for (int i = 0; i < 4; i++) x.undo();
        x.restore();
    }

    /** One member with dues, no wait, and two open invoices over 5000 to clients 0 and 1, due at day 0. */
    private static void small(GuildFund x) {
        x.addMember(1);
        x.payDues(0, 100000);
        x.setNumber(0, 0);
        x.addInvoice(0, 0, 5000, 0);
        x.addInvoice(0, 1, 5000, 0);
    }

    private static void nothing(GuildFund x) {
    }

    private static void eightMembers(GuildFund x) {
        for (int i = 0; i < 8; i++) x.addMember(i + 1);
    }

    private static void twentyInvoices(GuildFund x) {
        x.addMember(4);
        for (int i = 0; i < 20; i++) x.addInvoice(0, i % 6, 1000 + i, i);
    }

    private static void lastDays(GuildFund x) {
        for (int i = 0; i < 273; i++) x.pass(365);
    }

    /** Two members, and 99999999 cents of dues of member 0. */
    private static void richMember(GuildFund x) {
        x.addMember(1);
        x.addMember(2);
        for (int i = 0; i < 99; i++) x.payDues(0, 1000000);
        x.payDues(0, 999999);
    }

    /** A member, and client 0 with so many settled and so many lost invoices; the day is 0. */
    private static GuildFund knownClient(int settled, int lost) {
        GuildFund x = new GuildFund();
        x.addMember(1);
        for (int i = 0; i < settled + lost; i++) x.addInvoice(0, 0, 100, 0);
        for (int i = 0; i < settled; i++) x.pay(i, 100);
        x.setNumber(2, 1);
        if (lost > 0) x.pass(1);
        for (int i = settled; i < settled + lost; i++) x.giveUp(i);
        return x;
    }

    /** Members of the given weights after an advance of which so many cents were lost; below 0: more was paid. */
    private static GuildFund afterLoss(int loss, int... weights) {
        GuildFund x = new GuildFund();
        for (int weight : weights) x.addMember(weight);
        x.payDues(0, 1000000);
        x.addInvoice(0, 0, 1000000, 0);
        x.pass(14);
        int advance = x.payAhead(0);
        if (advance > loss) x.pay(0, advance - loss);
        x.pass(106);
        int before = balance(x);
        due("giveUp(0)", x.giveUp(0), Math.max(0, loss));
        due("the balance", balance(x) - before, Math.max(0, loss));
        due("count(13)", x.count(13), Math.max(0, loss));
        return x;
    }

    private static void shares(String name, GuildFund x, int... want) {
        int advance = x.count(10);
        for (int i = 0; i < want.length; i++) {
            due(name + ", share of " + i, borne(x, i), want[i]);
            due(name + ", purse of " + i, purse(x, i), (i == 0 ? advance : 0) - want[i]);
        }
    }

    public static void main(String[] args) {
        termsOfFloats();
        termsOfThings();
        termsOfRates();
        termsOfPayingAhead();
        termsOfPayments();
        termsOfLosses();
        termsOfTexts();
        termsOfHistory();
        termsOfErrors();
        settings();
        membersAndInvoices();
        theFund();
        texts();
        history();
        whatIsTold();
        System.out.println(wrong == 0 ? "all " + sentences + " sentences hold" : wrong + " answers are not as due");
        if (wrong != 0) System.exit(1);
    }

    // ---- FLOATS

    private static void termsOfFloats() {
        holds("Each operation with floats is done in floats, rounded by itself, in the order that is told (rates)",
            GuildFundEdges::ratesInFloats);
        holds("Each operation with floats is done in floats, rounded by itself, in the order that is told (offers)",
            GuildFundEdges::offersInFloats);
        holds("Each operation with floats is done in floats, rounded by itself, in the order that is told (worths)",
            GuildFundEdges::worthsInFloats);
        holds("Each operation with floats is done in floats, rounded by itself, in the order that is told (fees)",
            GuildFundEdges::feesInFloats);
        holds("each member's share is, in floats, loss * weight / sum of all weights (the product first)",
            GuildFundEdges::sharesInFloats);
        holds("whole numbers in it are converted to floats first", GuildFundEdges::wholeNumbersFirst);
        holds("Cut is the conversion of a float to a whole number without its fraction", GuildFundEdges::cut);
    }

    private static void ratesInFloats() {
        GuildFund x = knownClient(0, 1);
        x.addInvoice(0, 0, 1000, 1);
        // By hand, each step rounded to 24 bits; with one rounding less the last bits are others.
        due("rateIn(1, 58)", bits(x.rateIn(1, 58)), 1045444253);
        GuildFund y = knownClient(1, 0);
        y.addInvoice(0, 0, 1000, 0);
        due("rateIn(1, 85)", bits(y.rateIn(1, 85)), 1050812961);
        GuildFund z = knownClient(2, 0);
        z.addInvoice(0, 0, 1000, 0);
        due("rateIn(2, 98)", bits(z.rateIn(2, 98)), 1050505380);
    }

    private static void offersInFloats() {
        GuildFund x = knownClient(0, 1);
        x.addInvoice(0, 0, 817500, 0);
        x.pass(57);
        // In doubles, with amount * (base - ..) first, or with one rounding less it is 166224.
        due("the offer", x.invoice(1, 8), 166225);
        GuildFund y = knownClient(1, 0);
        y.addInvoice(0, 0, 747139, 0);
        y.pass(85);
        // In doubles, in another order or rounded to the nearest it is 236594.
        due("the offer", y.invoice(1, 8), 236593);
        GuildFund z = knownClient(2, 0);
        z.addInvoice(0, 0, 740052, 0);
        z.pass(98);
        due("the offer", z.invoice(2, 8), 227566);
    }

    private static void worthsInFloats() {
        GuildFund x = knownClient(0, 1);
        x.addInvoice(0, 0, 588580, 0);
        x.pass(44);
        due("worth(1)", x.worth(1), 63763.3125f);
        GuildFund y = knownClient(1, 0);
        y.addInvoice(0, 0, 788493, 0);
        y.pass(21);
        due("worth(1)", y.worth(1), 107760.96875f);
    }

    private static void feesInFloats() {
        GuildFund x = made(GuildFundEdges::small);
        x.setRate(2, bits(0.35f));
        x.addInvoice(0, 2, 100, 0);
        due("payAhead(2)", x.payAhead(2), 45);
        x.pay(2, 100);
        // 0.35f is a little below 0.35: the product is 35 in floats, and below it in doubles.
        due("behind the fee", x.count(12), 100 - 45 - 35);
    }

    private static void sharesInFloats() {
        // With weight / sum first member 3 bears 30114, with loss / sum first the second row is another.
        shares("weights 8, 3, 7, 5", afterLoss(138529, 8, 3, 7, 5), 48184, 18069, 42161, 30115);
        shares("weights 1, 6, 7", afterLoss(58756, 1, 6, 7), 4197, 25181, 29378);
    }

    private static void wholeNumbersFirst() {
        GuildFund x = new GuildFund();
        x.addMember(1);
        x.addMember(1);
        for (int i = 0; i < 16; i++) x.payDues(0, 1000000);
        x.payDues(0, 777217);
        x.payDues(1, 1);
        x.setNumber(0, 0);
        x.addInvoice(0, 0, 100, 0);
        x.payAhead(0);
        // All dues are 16777218, a float; 16777217 is none, so that a sum of floats would be 16777216.
        due("exposure()", x.exposure(), 45.0f / 16777218.0f);
        x.payDues(1, 1);
        // 16777219 is none either: the nearest float, of two the even one, is 16777220.
        due("exposure()", bits(x.exposure()), bits(45.0f / 16777220.0f));
    }

    private static void cut() {
        GuildFund x = made(GuildFundEdges::small);
        x.addInvoice(0, 2, 111, 0);
        due("the offer of 49.95", x.invoice(2, 8), 49);
        x.payAhead(2);
        x.pay(2, 111);
        due("behind the fee of 11.1", x.count(12), 111 - 49 - 11);
        x.addInvoice(0, 2, 119, 0);
        due("the offer of 71.4", x.invoice(3, 8), 71);
        x.payAhead(3);
        x.pay(3, 119);
        due("behind the fee of 11.9", x.count(12), 51 + 119 - 71 - 11);
        shares("shares of 5.4 and 0.6", afterLoss(6, 9, 1), 6, 0);
    }

    // ---- MEMBERS, CLIENTS, INVOICES

    private static void termsOfThings() {
        holds("An object is used for at most 512 calls after it has been made", GuildFundEdges::mostCalls);
        holds("the day is 0 at first", GuildFundEdges::firstDay);
        holds("There are at most 8 members, numbered from 0", GuildFundEdges::mostMembers);
        holds("each with a weight (1 to 9)", GuildFundEdges::weights);
        holds("dues that it has paid, and a purse (both 0 at first)", GuildFundEdges::newMember);
        holds("a purse can be below 0", GuildFundEdges::purseBelowZero);
        holds("There are 6 clients, numbered from 0", GuildFundEdges::sixClients);
        holds("each with three numbers (0 at first)", GuildFundEdges::newClients);
        holds("how many invoices it has settled, how many it has lost, and the sum of the days by which the settled "
            + "ones were late", GuildFundEdges::clientNumbers);
        holds("There are at most 20 invoices, numbered from 0", GuildFundEdges::mostInvoices);
        holds("with an amount (100 to 1000000)", GuildFundEdges::amounts);
        holds("what was paid of it (0 at first), an advance (0 at first), and a state: 0 open (at first)",
            GuildFundEdges::newInvoice);
        holds("a state: 0 open, 1 ahead, 2 settled, 3 lost", GuildFundEdges::states);
        holds("The age of an invoice is the day less the day at which it is due", GuildFundEdges::ages);
        holds("it is late by its age, or by 0 if that is below 0", GuildFundEdges::lateOrNot);
    }

    /** The 512th call answers as the first ones do. */
    private static void mostCalls() {
        GuildFund x = new GuildFund();
        x.addMember(1);
        for (int i = 1; i <= 510; i++) due("payDues(0, 1000)", x.payDues(0, 1000), 1000 * i);
        due("count(2), the 512th call", x.count(2), 510000);
        GuildFund y = new GuildFund();
        for (int i = 1; i <= 511; i++) {
            if (i % 2 == 1) due("setNumber(1, 90)", y.setNumber(1, 90), i == 1 ? 20 : 0);
            else due("setNumber(1, 0)", y.setNumber(1, 0), 90);
        }
        due("undo(), the 512th call", y.undo(), 3);
    }

    private static void firstDay() {
        GuildFund x = new GuildFund();
        due("count(0)", x.count(0), 0);
        due("pass(1)", x.pass(1), 1);
        due("count(0)", x.count(0), 1);
    }

    private static void mostMembers() {
        GuildFund x = new GuildFund();
        for (int i = 0; i < 8; i++) due("addMember()", x.addMember(i + 1), i);
        due("count(4)", x.count(4), 8);
        for (int i = 0; i < 8; i++) due("member(" + i + ", 0)", x.member(i, 0), i + 1);
        due("member(8, 0)", x.member(8, 0), UNKNOWN);
        refused("the ninth", GuildFundEdges::eightMembers, y -> y.addMember(1), FULL);
        x.undo();
        due("there is room again", x.addMember(9), 7);
        due("its weight", x.member(7, 0), 9);
    }

    private static void weights() {
        GuildFund x = new GuildFund();
        due("addMember(1)", x.addMember(1), 0);
        due("addMember(9)", x.addMember(9), 1);
        due("member(0, 0)", x.member(0, 0), 1);
        due("member(1, 0)", x.member(1, 0), 9);
        int[] bad = {0, 10, -1, MIN, MAX};
        for (int weight : bad) refused("addMember(" + weight + ")", GuildFundEdges::busy, y -> y.addMember(weight), BAD_VALUE);
    }

    private static void newMember() {
        GuildFund x = made(GuildFundEdges::busy);
        due("addMember(7)", x.addMember(7), 3);
        int[] want = {7, 0, BILLION, 0, 0, BILLION};
        for (int what = 0; what < 6; what++) due("member(3, " + what + ")", x.member(3, what), want[what]);
        // In the place of a member that was undone, too.
        GuildFund y = new GuildFund();
        y.addMember(1);
        y.addInvoice(0, 0, 100, 0);
        y.payDues(0, 9);
        y.pay(0, 100);
        for (int i = 0; i < 4; i++) y.undo();
        y.addMember(2);
        due("member(0, 1)", y.member(0, 1), 0);
        due("member(0, 2)", y.member(0, 2), BILLION);
    }

    private static void purseBelowZero() {
        GuildFund x = afterLoss(3, 1, 1, 1);
        due("member(1, 2)", x.member(1, 2), BILLION - 1);
        due("member(2, 2)", x.member(2, 2), BILLION - 1);
        x.addInvoice(1, 3, 100, 0);
        x.pay(1, 1);
        due("it comes back to 0", x.member(1, 2), BILLION);
        x.pay(1, 1);
        due("and above it", x.member(1, 2), BILLION + 1);
    }

    private static void sixClients() {
        GuildFund x = made(GuildFundEdges::small);
        due("client(0, 3)", x.client(0, 3), 1);
        due("client(5, 3)", x.client(5, 3), 0);
        due("addInvoice(0, 5, 100, 0)", x.addInvoice(0, 5, 100, 0), 2);
        due("client(5, 3)", x.client(5, 3), 1);
        refused("client(6, 0)", GuildFundEdges::busy, y -> y.client(6, 0), UNKNOWN);
        refused("client(-1, 0)", GuildFundEdges::busy, y -> y.client(-1, 0), UNKNOWN);
    }

    private static void newClients() {
        GuildFund x = new GuildFund();
        for (int i = 0; i < 6; i++) {
            for (int what = 0; what < 4; what++) due("client(" + i + ", " + what + ")", x.client(i, what), 0);
        }
    }

    private static void clientNumbers() {
        GuildFund x = made(GuildFundEdges::small);
        x.pass(120);
        x.pay(0, 5000);
        due("settled", x.client(0, 0), 1);
        due("not lost", x.client(0, 1), 0);
        due("days", x.client(0, 2), 120);
        x.giveUp(1);
        due("not settled", x.client(1, 0), 0);
        due("lost", x.client(1, 1), 1);
        due("no days of a lost one", x.client(1, 2), 0);
    }

    private static void mostInvoices() {
        GuildFund x = new GuildFund();
        x.addMember(4);
        for (int i = 0; i < 20; i++) due("addInvoice()", x.addInvoice(0, 1, 100 + i, 0), i);
        due("count(5)", x.count(5), 20);
        for (int i = 0; i < 20; i++) due("invoice(" + i + ", 2)", x.invoice(i, 2), 100 + i);
        due("invoice(20, 2)", x.invoice(20, 2), UNKNOWN);
        refused("the 21st", GuildFundEdges::twentyInvoices, y -> y.addInvoice(0, 0, 100, 0), FULL);
        // A settled invoice keeps its place.
        x.pay(3, 103);
        due("still full", x.addInvoice(0, 0, 100, 0), FULL);
        x.undo();
        x.undo();
        due("there is room again", x.addInvoice(0, 5, 777, 8), 19);
        due("its amount", x.invoice(19, 2), 777);
    }

    private static void amounts() {
        GuildFund x = made(GuildFundEdges::small);
        due("amount 100", x.addInvoice(0, 0, 100, 0), 2);
        due("amount 1000000", x.addInvoice(0, 0, 1000000, 0), 3);
        due("invoice(2, 2)", x.invoice(2, 2), 100);
        due("invoice(3, 2)", x.invoice(3, 2), 1000000);
        int[] bad = {99, 1000001, 0, -100, MIN, MAX};
        for (int amount : bad) refused("amount " + amount, GuildFundEdges::busy, y -> y.addInvoice(0, 0, amount, 0), BAD_VALUE);
    }

    private static void newInvoice() {
        GuildFund x = made(GuildFundEdges::busy);
        due("addInvoice(2, 1, 600, 130)", x.addInvoice(2, 1, 600, 130), 5);
        int[] want = {2, 1, 600, 130, OPEN, 0, 0, 99990};
        for (int what = 0; what < want.length; what++) due("invoice(5, " + what + ")", x.invoice(5, what), want[what]);
        // In the place of an invoice that was undone, too.
        GuildFund y = made(GuildFundEdges::small);
        y.payAhead(1);
        y.pay(1, 5000);
        for (int i = 0; i < 3; i++) y.undo();
        due("addInvoice(0, 3, 900, 0)", y.addInvoice(0, 3, 900, 0), 1);
        due("its state", y.invoice(1, 4), OPEN);
        due("paid", y.invoice(1, 5), 0);
        due("advance", y.invoice(1, 6), 0);
    }

    private static void states() {
        GuildFund x = made(GuildFundEdges::small);
        due("open", x.invoice(0, 4), 0);
        x.payAhead(0);
        due("ahead", x.invoice(0, 4), 1);
        x.pay(0, 4999);
        due("still ahead", x.invoice(0, 4), 1);
        x.pay(0, 1);
        due("settled", x.invoice(0, 4), 2);
        x.pass(120);
        x.giveUp(1);
        due("lost", x.invoice(1, 4), 3);
    }

    private static void ages() {
        GuildFund x = made(GuildFundEdges::small);
        x.addInvoice(0, 0, 100, 9999);
        x.addInvoice(0, 0, 100, 1);
        due("9999 days before", x.invoice(2, 7), 100000 - 9999);
        due("a day before", x.invoice(3, 7), 99999);
        due("on the day", x.invoice(0, 7), 100000);
        x.pass(1);
        due("on the day", x.invoice(3, 7), 100000);
        due("a day behind", x.invoice(0, 7), 100001);
        GuildFund y = new GuildFund();
        y.addMember(1);
        y.addInvoice(0, 0, 100, 0);
        lastDays(y);
        y.pass(354);
        due("99999 days behind", y.invoice(0, 7), 199999);
    }

    private static void lateOrNot() {
        GuildFund x = new GuildFund();
        x.addMember(1);
        for (int client = 0; client < 3; client++) x.addInvoice(0, client, 100, 49 + client);
        x.pass(50);
        due("late by 1", x.rateIn(0, 0), (0.9f - 0.005f) * 0.5f);
        due("late by 0", x.rateIn(1, 0), 0.45f);
        due("a day before", x.rateIn(2, 0), 0.45f);
        due("a day before, tomorrow", x.rateIn(2, 1), 0.45f);
        for (int i = 0; i < 3; i++) x.pay(i, 100);
        due("days of 1", x.client(0, 2), 1);
        due("days of 0", x.client(1, 2), 0);
        due("not -1", x.client(2, 2), 0);
        due("lateness(0)", x.lateness(0), 1.0f);
        due("lateness(2)", x.lateness(2), 0.0f);
    }

    // ---- RISK AND RATES

    private static void termsOfRates() {
        holds("The risk of a client is (lost + 1) / (settled + lost + 2), the sums in whole numbers", GuildFundEdges::risks);
        holds("Its lateness is the sum of days / settled, or 0.0f if it has settled none", GuildFundEdges::latenesses);
        holds("0 the base (0.1f to 1.0f; 0.9f)", () -> rateRange(0, 0.1f, 1.0f, 0.9f));
        holds("1 the loss of a day (0.0f to 0.05f; 0.005f)", () -> rateRange(1, 0.0f, 0.05f, 0.005f));
        holds("2 the fee (0.0f to 0.5f; 0.1f)", () -> rateRange(2, 0.0f, 0.5f, 0.1f));
        holds("The rate of an invoice is max(0.0f, base - loss of a day * days by which it is late) * (1.0f - risk)",
            GuildFundEdges::rateNotBelowZero);
        holds("The offer for it is amount * rate, cut", GuildFundEdges::offers);
        holds("The worth of an invoice is (amount - offer) * (1.0f - risk) - offer * risk", GuildFundEdges::worths);
    }

    private static void risks() {
        due("none", knownClient(0, 0).risk(0), 0.5f);
        due("one settled", knownClient(1, 0).risk(0), 1.0f / 3.0f);
        due("one lost", knownClient(0, 1).risk(0), 2.0f / 3.0f);
        due("one of each", knownClient(1, 1).risk(0), 0.5f);
        due("two settled, one lost", knownClient(2, 1).risk(0), 2.0f / 5.0f);
        due("20 settled", knownClient(20, 0).risk(0), 1.0f / 22.0f);
        due("20 lost", knownClient(0, 20).risk(0), 21.0f / 22.0f);
        due("another client", knownClient(0, 20).risk(1), 0.5f);
    }

    private static void latenesses() {
        GuildFund x = made(GuildFundEdges::small);
        x.addInvoice(0, 0, 100, 0);
        x.addInvoice(0, 0, 100, 0);
        x.pass(1);
        due("none settled", x.lateness(0), 0.0f);
        x.pay(0, 4999);
        due("a cent is left", x.lateness(0), 0.0f);
        x.pay(0, 1);
        due("one settled", x.lateness(0), 1.0f);
        x.pass(2);
        x.pay(2, 100);
        due("two settled", x.lateness(0), 2.0f);
        x.pass(7);
        x.pay(3, 100);
        due("three settled", x.lateness(0), 14.0f / 3.0f);
        x.pass(200);
        x.giveUp(1);
        due("one lost, none settled", x.lateness(1), 0.0f);
    }

    private static void rateRange(int which, float low, float high, float first) {
        GuildFund x = new GuildFund();
        due("at first", x.rate(which), first);
        due("the highest", x.setRate(which, bits(high)), 1);
        due("is told", x.rate(which), high);
        due("the lowest", x.setRate(which, bits(low)), 1);
        due("is told", x.rate(which), low);
        due("a little above the lowest", x.setRate(which, bits(Math.nextUp(low))), 1);
        due("is told", x.rate(which), Math.nextUp(low));
        due("a little below the highest", x.setRate(which, bits(Math.nextDown(high))), 1);
        due("is told", x.rate(which), Math.nextDown(high));
        float[] bad = {Math.nextDown(low), Math.nextUp(high), -low - 0.01f, -high, 2.0f, 1e30f, Float.MAX_VALUE, -Float.MIN_VALUE};
        for (float value : bad) {
            refused("setRate(" + which + ", bits of " + value + ")", GuildFundEdges::busy,
                y -> y.setRate(which, bits(value)), BAD_VALUE);
        }
    }

    private static void rateNotBelowZero() {
        GuildFund x = made(GuildFundEdges::small);
        // 0.9f - 0.005f * 179.0f is a little above 0, with 180 days it is 0, and behind that below it.
        due("rateIn(0, 179)", x.rateIn(0, 179), (0.9f - 0.005f * 179.0f) * 0.5f);
        due("above 0", x.rateIn(0, 179) > 0.0f ? 1 : 0, 1);
        due("rateIn(0, 180)", x.rateIn(0, 180), 0.0f);
        due("rateIn(0, 181)", x.rateIn(0, 181), 0.0f);
        due("rateIn(0, 1000)", x.rateIn(0, 1000), 0.0f);
        x.pass(181);
        due("the offer", x.invoice(0, 8), 0);
        x.setRate(1, bits(0.05f));
        x.setRate(0, bits(0.1f));
        due("a small base", x.rateIn(0, 0), 0.0f);
        x.setRate(1, 0);
        due("no loss of a day", x.rateIn(0, 1000), 0.1f * 0.5f);
    }

    private static void offers() {
        GuildFund x = new GuildFund();
        x.addMember(1);
        x.setRate(0, bits(1.0f));
        x.addInvoice(0, 0, 100, 0);
        x.addInvoice(0, 0, 101, 0);
        x.addInvoice(0, 0, 1000000, 0);
        due("50", x.invoice(0, 8), 50);
        due("50.5", x.invoice(1, 8), 50);
        due("500000", x.invoice(2, 8), 500000);
        x.setRate(0, bits(0.1f));
        due("5", x.invoice(0, 8), 5);
        due("5.05", x.invoice(1, 8), 5);
        due("50000", x.invoice(2, 8), 50000);
    }

    private static void worths() {
        GuildFund x = new GuildFund();
        x.addMember(1);
        x.addInvoice(0, 0, 1000, 0);
        due("550 * 0.5 - 450 * 0.5", x.worth(0), 50.0f);
        x.setRate(0, bits(1.0f));
        due("500 * 0.5 - 500 * 0.5", x.worth(0), 0.0f);
        x.pass(365);
        due("without an offer", x.worth(0), 500.0f);
        // amount - offer is a whole number: the offer of 50.5 is cut to 50 before it is taken from 101.
        GuildFund y = new GuildFund();
        y.addMember(1);
        y.setRate(0, bits(1.0f));
        y.addInvoice(0, 0, 101, 0);
        due("51 * 0.5 - 50 * 0.5", y.worth(0), 0.5f);
    }

    // ---- THE FUND: paying ahead

    private static void termsOfPayingAhead() {
        holds("The fund has a balance (0 at first)", GuildFundEdges::firstBalance);
        holds("0 the wait (0 to 90 days; 14)", () -> numberRange(0, 0, 90, 14));
        holds("1 the reserve in percent (0 to 90; 20)", () -> numberRange(1, 0, 90, 20));
        holds("2 the patience (1 to 365 days; 120)", () -> numberRange(2, 1, 365, 120));
        holds("An invoice can be paid ahead if it is open", GuildFundEdges::aheadIfOpen);
        holds("nothing was paid of it", GuildFundEdges::aheadIfNothingPaid);
        holds("its age is the wait or more", GuildFundEdges::aheadAtTheWait);
        holds("the offer is above 0", GuildFundEdges::aheadIfOffered);
        holds("the balance less the offer is not less than the reserve", GuildFundEdges::aheadAboveReserve);
        holds("the reserve: all dues times the percent, divided by 100, rounded down", GuildFundEdges::reserve);
        holds("It is ahead then; the offer is its advance, which leaves the balance and comes to the member's purse",
            GuildFundEdges::advanceMoves);
    }

    private static void firstBalance() {
        GuildFund x = new GuildFund();
        due("count(1)", x.count(1), BILLION);
        x.addMember(1);
        due("count(1)", x.count(1), BILLION);
        x.payDues(0, 1);
        due("count(1)", x.count(1), BILLION + 1);
    }

    private static void numberRange(int which, int low, int high, int first) {
        GuildFund x = new GuildFund();
        due("at first", x.number(which), first);
        due("the lowest", x.setNumber(which, low), first);
        due("is told", x.number(which), low);
        due("the highest", x.setNumber(which, high), low);
        due("is told", x.number(which), high);
        int[] bad = {low - 1, high + 1, -first, MIN, MAX};
        for (int value : bad) {
            refused("setNumber(" + which + ", " + value + ")", GuildFundEdges::busy, y -> y.setNumber(which, value), BAD_VALUE);
        }
    }

    /** Whether it can be paid ahead is told and done alike. */
    private static void canPayAhead(String name, Setup setup, int invoice, int advance) {
        GuildFund x = made(setup);
        due(name + ", invoice(.., 9)", x.invoice(invoice, 9), 1);
        due(name + ", payAhead()", x.payAhead(invoice), advance);
    }

    private static void cannotPayAhead(String name, Setup setup, int invoice) {
        due(name + ", invoice(.., 9)", made(setup).invoice(invoice, 9), 0);
        refused(name + ", payAhead()", setup, x -> x.payAhead(invoice), NOT_POSSIBLE);
    }

    private static void aheadIfOpen() {
        canPayAhead("open", GuildFundEdges::small, 0, 2250);
        cannotPayAhead("ahead", x -> {
            small(x);
            x.payAhead(0);
        }, 0);
        // The lost one is lost without a cent paid, with an offer and a balance.
        cannotPayAhead("lost", x -> {
            small(x);
            x.pass(120);
            x.giveUp(0);
            due("there is an offer", x.invoice(0, 8) > 0 ? 1 : 0, 1);
        }, 0);
        cannotPayAhead("settled", x -> {
            small(x);
            x.pay(0, 5000);
        }, 0);
    }

    private static void aheadIfNothingPaid() {
        canPayAhead("a cent was paid of the other one", x -> {
            small(x);
            x.pay(1, 1);
        }, 0, 2250);
        cannotPayAhead("a cent was paid", x -> {
            small(x);
            x.pay(0, 1);
        }, 0);
    }

    private static void aheadAtTheWait() {
        Setup day13 = x -> {
            small(x);
            x.setNumber(0, 14);
            x.pass(13);
        };
        cannotPayAhead("age 13 of 14", day13, 0);
        canPayAhead("age 14 of 14", x -> {
            day13.on(x);
            x.pass(1);
        }, 0, 2075);
        Setup notYetDue = x -> {
            small(x);
            x.addInvoice(0, 2, 5000, 1);
        };
        cannotPayAhead("age -1 of 0", notYetDue, 2);
        canPayAhead("age 0 of 0", notYetDue, 0, 2250);
        canPayAhead("age 90 of 90", x -> {
            small(x);
            x.setNumber(0, 90);
            x.pass(90);
        }, 0, 1125);
        cannotPayAhead("age 89 of 90", x -> {
            small(x);
            x.setNumber(0, 90);
            x.pass(89);
        }, 0);
    }

    private static void aheadIfOffered() {
        Setup offerOfOne = x -> {
            small(x);
            x.addInvoice(0, 2, 100, 0);
            x.pass(175);
        };
        due("the offer of 1.25", made(offerOfOne).invoice(2, 8), 1);
        canPayAhead("an offer of 1", offerOfOne, 2, 1);
        // (0.9f - 0.005f * 176.0f) * 0.5f is a little below 0.01f.
        Setup offerOfNone = x -> {
            offerOfOne.on(x);
            x.pass(1);
        };
        due("the offer of 0.999", made(offerOfNone).invoice(2, 8), 0);
        due("its rate is above 0", made(offerOfNone).rateIn(2, 0) > 0.0f ? 1 : 0, 1);
        cannotPayAhead("an offer of 0", offerOfNone, 2);
    }

    private static Setup duesOf(int cents) {
        return x -> {
            x.addMember(9);
            x.setNumber(0, 0);
            x.addInvoice(0, 0, 5000, 0);
            x.payDues(0, cents);
        };
    }

    private static void aheadAboveReserve() {
        // The offer is 2250; 20 of 100 of 2812 and of 2811 are 562.
        cannotPayAhead("561 would be left of 562", duesOf(2811), 0);
        canPayAhead("562 are left of 562", duesOf(2812), 0, 2250);
        Setup noReserve = x -> {
            duesOf(2249).on(x);
            x.setNumber(1, 0);
        };
        cannotPayAhead("-1 would be left of 0", noReserve, 0);
        canPayAhead("0 are left of 0", x -> {
            noReserve.on(x);
            x.payDues(0, 1);
        }, 0, 2250);
        canPayAhead("2250 are left of 2250", x -> {
            duesOf(4500).on(x);
            x.setNumber(1, 50);
        }, 0, 2250);
        cannotPayAhead("2250 would be left of 2295", x -> {
            duesOf(4500).on(x);
            x.setNumber(1, 51);
        }, 0);
    }

    private static void reserve() {
        due("without dues", new GuildFund().count(3), 0);
        due("99 * 20 / 100", made(duesOf(99)).count(3), 19);
        due("100 * 20 / 100", made(duesOf(100)).count(3), 20);
        due("104 * 20 / 100", made(duesOf(104)).count(3), 20);
        due("105 * 20 / 100", made(duesOf(105)).count(3), 21);
        GuildFund x = made(duesOf(1));
        x.setNumber(1, 90);
        due("1 * 90 / 100", x.count(3), 0);
        x.payDues(0, 1);
        due("2 * 90 / 100", x.count(3), 1);
        x.addMember(1);
        x.payDues(1, 3);
        due("5 * 90 / 100, of all members", x.count(3), 4);
        x.setNumber(1, 0);
        due("0 percent", x.count(3), 0);
        // The product is beyond an int: 99999999 * 90.
        GuildFund rich = made(GuildFundEdges::richMember);
        rich.setNumber(1, 90);
        due("99999999 * 90 / 100", rich.count(3), 89999999);
        rich.payDues(1, 1);
        due("100000000 * 90 / 100", rich.count(3), 90000000);
        // Of the dues, not of the balance.
        GuildFund y = made(duesOf(10000));
        y.payAhead(0);
        due("10000 * 20 / 100", y.count(3), 2000);
    }

    private static void advanceMoves() {
        GuildFund x = made(GuildFundEdges::small);
        x.addMember(1);
        x.addInvoice(1, 3, 10000, 0);
        due("payAhead(2)", x.payAhead(2), 4500);
        due("state", x.invoice(2, 4), AHEAD);
        due("advance", x.invoice(2, 6), 4500);
        due("paid", x.invoice(2, 5), 0);
        due("balance", balance(x), 95500);
        due("purse", purse(x, 1), 4500);
        due("the other purse", purse(x, 0), 0);
        x.pass(100);
        due("the advance stays", x.invoice(2, 6), 4500);
        due("the offer falls", x.invoice(2, 8) < 4500 ? 1 : 0, 1);
        x.pay(2, 10000);
        due("the advance of a settled one stays", x.invoice(2, 6), 4500);
    }

    // ---- THE FUND: payments

    private static void termsOfPayments() {
        holds("A payment of a client for an open invoice comes to the member's purse, for one that is ahead to the balance",
            GuildFundEdges::whereMoneyGoes);
        holds("When all of the amount was paid, the invoice is settled", GuildFundEdges::settledByLastCent);
        holds("the client has settled one more, and the days by which it is late are added", GuildFundEdges::daysAdded);
        holds("if it was ahead, the fee is amount * fee rate, cut", GuildFundEdges::feeOnlyAhead);
        holds("amount - advance - fee, if this is above 0, leaves the balance and comes to the member's purse",
            GuildFundEdges::restAboveZero);
    }

    private static void whereMoneyGoes() {
        GuildFund x = made(GuildFundEdges::small);
        x.payAhead(1);
        x.pay(0, 30);
        due("open: the purse", purse(x, 0), 2250 + 30);
        due("open: the balance", balance(x), 100000 - 2250);
        x.pay(1, 40);
        due("ahead: the purse", purse(x, 0), 2250 + 30);
        due("ahead: the balance", balance(x), 100000 - 2250 + 40);
        x.pay(0, 4970);
        due("open, the last: the purse", purse(x, 0), 2250 + 5000);
        due("open, the last: the balance", balance(x), 100000 - 2250 + 40);
    }

    private static void settledByLastCent() {
        GuildFund x = made(GuildFundEdges::small);
        due("all but a cent", x.pay(0, 4999), 1);
        due("open", x.invoice(0, 4), OPEN);
        due("none settled", x.client(0, 0), 0);
        due("the last cent", x.pay(0, 1), 0);
        due("settled", x.invoice(0, 4), SETTLED);
        due("one settled", x.client(0, 0), 1);
        due("at once", x.pay(1, 5000), 0);
        due("settled", x.invoice(1, 4), SETTLED);
        GuildFund y = made(GuildFundEdges::small);
        y.payAhead(0);
        due("all but a cent", y.pay(0, 4999), 1);
        due("ahead", y.invoice(0, 4), AHEAD);
        due("nothing behind the advance", y.count(12), 0);
        due("the last cent", y.pay(0, 1), 0);
        due("settled", y.invoice(0, 4), SETTLED);
        due("5000 - 2250 - 500", y.count(12), 2250);
    }

    private static void daysAdded() {
        GuildFund x = new GuildFund();
        x.addMember(1);
        int[] dueDays = {11, 10, 9, 0};
        for (int day : dueDays) x.addInvoice(0, 2, 100, day);
        x.pass(10);
        int[] days = {0, 0, 1, 11};
        for (int i = 0; i < 4; i++) {
            x.pay(i, 50);
            x.pay(i, 50);
            due("settled", x.client(2, 0), i + 1);
            due("days", x.client(2, 2), days[i]);
        }
        due("another client", x.client(1, 0), 0);
    }

    private static void feeOnlyAhead() {
        GuildFund x = made(GuildFundEdges::small);
        x.pay(0, 5000);
        due("open: no fee", purse(x, 0), 5000);
        due("open: the balance", balance(x), 100000);
        due("open: nothing behind an advance", x.count(12), 0);
        x.payAhead(1);
        x.pay(1, 5000);
        due("ahead: a fee of 500", purse(x, 0), 9500);
        due("ahead: it stays in the balance", balance(x), 100500);
        x.setRate(2, 0);
        x.addInvoice(0, 2, 5000, 0);
        x.payAhead(2);
        x.pay(2, 5000);
        due("a fee of 0", purse(x, 0), 14500);
        due("the balance", balance(x), 100500);
    }

    /** Settles an invoice that was paid ahead, with the highest base and fee, and a risk of a half or a third. */
    private static GuildFund restOf(int amount, int settledBefore) {
        GuildFund x = knownClient(settledBefore, 0);
        x.payDues(0, 1000000);
        x.setNumber(0, 0);
        x.setRate(0, bits(1.0f));
        x.setRate(2, bits(0.5f));
        x.addInvoice(0, 0, amount, 0);
        x.payAhead(settledBefore);
        x.pay(settledBefore, amount);
        due("settled", x.invoice(settledBefore, 4), SETTLED);
        return x;
    }

    private static void restAboveZero() {
        GuildFund one = restOf(1001, 0);
        due("advance", one.count(10), 500);
        due("1001 - 500 - 500", one.count(12), 1);
        due("purse", purse(one, 0), 501);
        due("balance", balance(one), 1000500);
        GuildFund none = restOf(1000, 0);
        due("1000 - 500 - 500", none.count(12), 0);
        due("purse", purse(none, 0), 500);
        due("balance", balance(none), 1000500);
        GuildFund below = restOf(1000, 1);
        due("advance", below.count(10), 666);
        due("1000 - 666 - 500", below.count(12), 0);
        due("purse", purse(below, 0), 100 + 666);
        due("balance", balance(below), 1000000 - 666 + 1000);
    }

    // ---- THE FUND: losses

    private static void termsOfLosses() {
        holds("An invoice that is open or ahead can be given up", GuildFundEdges::giveUpOpenOrAhead);
        holds("whose age is the patience or more", GuildFundEdges::giveUpAtThePatience);
        holds("it is lost, and so the client has lost one more", GuildFundEdges::clientLostOne);
        holds("If it was ahead, the loss is the advance less what was paid, if this is above 0", GuildFundEdges::lossAboveZero);
        holds("the cents that are left over go to the members from 0 on, one cent each", GuildFundEdges::centsLeftOver);
        holds("until none is left", GuildFundEdges::sharesAreTheLoss);
        holds("Each share leaves the member's purse and comes to the balance", GuildFundEdges::sharesMove);
    }

    private static void canGiveUp(String name, Setup setup, int invoice, int loss) {
        GuildFund x = made(setup);
        due(name + ", invoice(.., 10)", x.invoice(invoice, 10), 1);
        due(name + ", giveUp()", x.giveUp(invoice), loss);
        due(name + ", its state", x.invoice(invoice, 4), LOST);
    }

    private static void cannotGiveUp(String name, Setup setup, int invoice) {
        due(name + ", invoice(.., 10)", made(setup).invoice(invoice, 10), 0);
        refused(name + ", giveUp()", setup, x -> x.giveUp(invoice), NOT_POSSIBLE);
    }

    /** small(), of which invoice 0 is paid ahead at once, after so many days. */
    private static Setup smallAfter(int days) {
        return x -> {
            small(x);
            x.payAhead(0);
            x.pass(days);
        };
    }

    private static void giveUpOpenOrAhead() {
        canGiveUp("open", smallAfter(120), 1, 0);
        canGiveUp("ahead", smallAfter(120), 0, 2250);
        canGiveUp("open, and paid in part", x -> {
            smallAfter(120).on(x);
            x.pay(1, 4999);
        }, 1, 0);
        cannotGiveUp("settled", x -> {
            smallAfter(120).on(x);
            x.pay(1, 5000);
        }, 1);
        cannotGiveUp("settled, that was ahead", x -> {
            smallAfter(120).on(x);
            x.pay(0, 5000);
        }, 0);
        cannotGiveUp("lost", x -> {
            smallAfter(120).on(x);
            x.giveUp(0);
        }, 0);
    }

    private static void giveUpAtThePatience() {
        cannotGiveUp("age 119 of 120", smallAfter(119), 0);
        canGiveUp("age 120 of 120", smallAfter(120), 0, 2250);
        canGiveUp("age 121 of 120", smallAfter(121), 0, 2250);
        Setup impatient = x -> {
            small(x);
            x.setNumber(2, 1);
        };
        cannotGiveUp("age 0 of 1", impatient, 0);
        canGiveUp("age 1 of 1", x -> {
            impatient.on(x);
            x.pass(1);
        }, 0, 0);
        Setup patient = x -> {
            small(x);
            x.setNumber(2, 365);
            x.pass(364);
        };
        cannotGiveUp("age 364 of 365", patient, 0);
        canGiveUp("age 365 of 365", x -> {
            patient.on(x);
            x.pass(1);
        }, 0, 0);
        Setup dueLater = x -> {
            small(x);
            x.addInvoice(0, 0, 100, 3);
            x.pass(122);
        };
        cannotGiveUp("age 119, due at day 3", dueLater, 2);
        canGiveUp("age 120, due at day 3", x -> {
            dueLater.on(x);
            x.pass(1);
        }, 2, 0);
    }

    private static void clientLostOne() {
        GuildFund x = made(smallAfter(120));
        due("before", x.client(1, 1), 0);
        x.giveUp(1);
        due("of an open one", x.client(1, 1), 1);
        x.giveUp(0);
        due("of one that was ahead", x.client(0, 1), 1);
        due("the first stays", x.client(1, 1), 1);
        due("none settled", x.client(0, 0), 0);
        due("count(9)", x.count(9), 2);
    }

    private static void lossAboveZero() {
        shares("a loss of 1", afterLoss(1, 1, 1), 1, 0);
        shares("a loss of 0", afterLoss(0, 1, 1), 0, 0);
        shares("a cent more than the advance was paid", afterLoss(-1, 1, 1), 0, 0);
        // What was paid of an open invoice is no loss, and none is shared.
        GuildFund x = made(smallAfter(120));
        x.pay(1, 17);
        due("open", x.giveUp(1), 0);
        due("count(13)", x.count(13), 0);
        due("borne", borne(x, 0), 0);
        // All of the advance is the loss if nothing was paid.
        due("ahead", x.giveUp(0), 2250);
        due("the advance stays", x.invoice(0, 6), 2250);
    }

    // At most seven cents of eight members are left over, as each share is cut by less than a cent: no row of calls
    // leads around again, or to shares that are more than the loss (NOTES.md).
    private static void centsLeftOver() {
        shares("8 cents of 8", afterLoss(8, 7, 7, 7, 7, 7, 7, 7, 7), 1, 1, 1, 1, 1, 1, 1, 1);
        shares("9 cents of 8", afterLoss(9, 7, 7, 7, 7, 7, 7, 7, 7), 2, 1, 1, 1, 1, 1, 1, 1);
        shares("7 cents of 8", afterLoss(7, 7, 7, 7, 7, 7, 7, 7, 7), 1, 1, 1, 1, 1, 1, 1, 0);
        shares("15 cents of 8", afterLoss(15, 7, 7, 7, 7, 7, 7, 7, 7), 2, 2, 2, 2, 2, 2, 2, 1);
        shares("1 cent of 8", afterLoss(1, 1, 9, 9, 9, 9, 9, 9, 9), 1, 0, 0, 0, 0, 0, 0, 0);
        shares("a member alone", afterLoss(415, 9), 415);
        shares("weights 9 and 1", afterLoss(10, 9, 1), 9, 1);
        shares("weights 9 and 1, a cent more", afterLoss(11, 9, 1), 10, 1);
        shares("weights 9 and 1, a cent less", afterLoss(9, 9, 1), 9, 0);
        // 22133 * 3 / 6, 22133 * 2 / 6 and 22133 / 6 are 11066.5, 7377.67 and 3688.83.
        shares("two cents left over", afterLoss(22133, 3, 2, 1), 11067, 7378, 3688);
    }

    /** For many losses and weights the shares are the loss together, and no share is off by more than a cent. */
    private static void sharesAreTheLoss() {
        int[][] guilds = {{1}, {9, 1}, {1, 9}, {9, 9, 9}, {8, 3, 7, 5}, {1, 2, 3, 4, 5, 6, 7, 8}, {9, 9, 9, 9, 9, 9, 9, 9}};
        for (int[] guild : guilds) {
            int weights = 0;
            for (int weight : guild) weights += weight;
            for (int loss = 1; loss < 415000; loss = loss * 3 + 1) {
                GuildFund x = afterLoss(loss, guild);
                int sum = 0;
                for (int i = 0; i < guild.length; i++) {
                    sum += borne(x, i);
                    int more = borne(x, i) - (int) ((long) loss * guild[i] / weights);
                    due("a cent more at most", more == 0 || more == 1 ? 1 : 0, 1);
                }
                due("all shares", sum, loss);
            }
        }
    }

    private static void sharesMove() {
        GuildFund x = afterLoss(10, 3, 2);
        int before = balance(x);
        due("purse of 1", purse(x, 1), -4);
        due("borne by 1", borne(x, 1), 4);
        x.addInvoice(1, 3, 500, 0);
        x.setNumber(0, 0);
        int advance = x.payAhead(1);
        due("balance", balance(x), before - advance);
        due("giveUp(1)", x.giveUp(1), advance);
        due("balance", balance(x), before);
        due("borne by both", borne(x, 0) + borne(x, 1), 10 + advance);
        due("count(13)", x.count(13), 10 + advance);
    }

    // ---- TEXTS

    private static void termsOfTexts() {
        holds("There is a text of at most 60 characters, empty at first", GuildFundEdges::mostSigns);
        holds("A text of payments is one or more payments", GuildFundEdges::oneOrMorePayments);
        holds("with \",\" between two", GuildFundEdges::commasBetween);
        holds("the number of an invoice (one or two digits)", GuildFundEdges::invoiceDigits);
        holds("\"=\"", GuildFundEdges::equalsSign);
        holds("an amount (one to seven digits", GuildFundEdges::amountDigits);
        holds("an amount (.., not 0)", GuildFundEdges::amountNotZero);
        holds("numbers have no zero in front, unless it is the single digit 0 of an invoice", GuildFundEdges::zeroInFront);
        holds("The fault of the text is the index, from 0, of the first character that is not allowed at its place",
            GuildFundEdges::firstFault);
        holds("or the length of the text if it ends too early (the empty text does)", GuildFundEdges::endsTooEarly);
    }

    /** A text that is read and done. */
    private static void taken(String text, int settled) {
        Setup typed = x -> {
            twentyInvoices(x);
            typeAll(x, text);
        };
        oneAct("readPayments() of " + text, typed, GuildFund::readPayments, settled);
    }

    private static void faulty(String text, int fault) {
        Setup typed = x -> {
            busy(x);
            typeAll(x, text);
        };
        refused("readPayments() of " + text, typed, GuildFund::readPayments, -100 - fault);
    }

    private static String times(int number, String text) {
        return text.repeat(number);
    }

    private static void mostSigns() {
        GuildFund x = new GuildFund();
        due("count(15)", x.count(15), 0);
        due("readPayments()", x.readPayments(), -100);
        for (int i = 1; i <= 59; i++) x.type('1');
        due("the 60th", x.type('1'), 60);
        Setup full = y -> {
            busy(y);
            typeAll(y, times(15, "4=1,"));
        };
        refused("the 61st", full, y -> y.type('1'), FULL);
        // The text is as it was: 15 payments and a comma behind them.
        GuildFund y = made(full);
        y.type('1');
        due("readPayments()", y.readPayments(), -160);
    }

    private static void oneOrMorePayments() {
        faulty("", 0);
        taken("3=1", 0);
        taken("3=1003", 1);
        taken("3=1003,4=1004", 2);
        taken(times(14, "3=1,") + "3=1", 0);
        // 60 characters, the most payments.
        taken(times(13, "3=1,") + "3=1,10=1", 0);
        GuildFund x = made(GuildFundEdges::twentyInvoices);
        due("15 payments", read(x, times(14, "3=1,") + "3=2"), 0);
        due("all are done", x.invoice(3, 5), 16);
    }

    private static void commasBetween() {
        taken("3=1,4=1", 0);
        faulty(",", 0);
        faulty(",4=1", 0);
        faulty("4=1,,4=1", 4);
        faulty("4=1;4=1", 3);
        faulty("4=1 4=1", 3);
        faulty("4=1-4=1", 3);
        faulty("4=1+4=1", 3);
        faulty("4=14=1", 4);
        faulty("4,1", 1);
        faulty("4=,", 2);
    }

    private static void invoiceDigits() {
        taken("9=1009", 1);
        taken("10=1010", 1);
        taken("19=1019", 1);
        refusedPayment(GuildFundEdges::busy, "5=1", 0, UNKNOWN);
        refusedPayment(GuildFundEdges::busy, "99=1", 0, UNKNOWN);
        faulty("100=1", 2);
        faulty("190=1", 2);
        faulty("=1", 0);
        faulty("-1=1", 0);
        faulty("+1=1", 0);
        faulty("4=1,=1", 4);
        faulty("4=1,123=1", 6);
    }

    private static void equalsSign() {
        taken("3=1", 0);
        faulty("4<1", 1);
        faulty("4>1", 1);
        faulty("4:1", 1);
        faulty("4 =1", 1);
        faulty("4==1", 2);
        faulty("4=1=", 3);
        faulty("10:1", 2);
        faulty("0:1", 1);
    }

    private static void amountDigits() {
        Setup million = x -> {
            x.addMember(1);
            x.addInvoice(0, 0, 1000000, 0);
            typeAll(x, "0=1000000");
        };
        oneAct("seven digits", million, GuildFund::readPayments, 1);
        GuildFund x = made(million);
        due("one digit", read(x, "0=9"), 0);
        due("six digits", read(x, "0=999990"), 0);
        due("paid", x.invoice(0, 5), 999999);
        due("the last cent", read(x, "0=1"), 1);
        refusedPayment(GuildFundEdges::busy, "4=9999999", 0, BAD_VALUE);
        faulty("4=12345678", 9);
        faulty("4=10000000", 9);
        faulty("4=99999999999", 9);
        faulty("4=1,4=12345678", 13);
        faulty("4=", 2);
    }

    private static void amountNotZero() {
        taken("0=1", 0);
        faulty("4=0", 2);
        faulty("0=0", 2);
        faulty("4=1,4=0", 6);
        faulty("4=-1", 2);
    }

    private static void zeroInFront() {
        taken("0=1000", 1);
        taken("0=10,10=100", 0);
        faulty("00=1", 1);
        faulty("01=1", 1);
        faulty("09=1", 1);
        faulty("4=01", 2);
        faulty("4=00", 2);
        faulty("4=0000001", 2);
        faulty("4=1,04=1", 5);
        faulty("4=1,4=01", 6);
    }

    private static void firstFault() {
        faulty("a", 0);
        faulty("a=b", 0);
        faulty("4a", 1);
        faulty("4=a", 2);
        faulty("4=1a", 3);
        faulty("4=1,a,b", 4);
        faulty("4=1,12a", 6);
        // The characters beside the digits, and some of which the last eight bits are a digit's or a sign's.
        int[] signs = {47, 58, 0, 9, 32, 127, 255, 256 + '4', 256 + '=', 256 + ',', 0x0664, 0xFF14, 65535};
        for (int sign : signs) {
            String odd = String.valueOf((char) sign);
            faulty(odd, 0);
            faulty("4" + odd, 1);
            faulty("4=" + odd, 2);
            faulty("4=1" + odd, 3);
            faulty("4=1," + odd, 4);
        }
        faulty(times(14, "4=1,") + "4=1=", 59);
        faulty(times(60, "1"), 2);
        faulty("x" + times(59, "4"), 0);
    }

    private static void endsTooEarly() {
        faulty("", 0);
        faulty("0", 1);
        faulty("4", 1);
        faulty("12", 2);
        faulty("4=", 2);
        faulty("12=", 3);
        faulty("4=1,", 4);
        faulty("4=1234567,", 10);
        faulty("4=1,0", 5);
        faulty("4=1,12", 6);
        faulty("4=1,4=", 6);
        faulty(times(15, "4=1,"), 60);
        faulty(times(14, "4=1,") + "40=", 59);
        faulty(times(14, "4=1,") + "4=", 58);
    }

    // ---- HISTORY

    private static void termsOfHistory() {
        holds("A history of at most 4 states is kept", GuildFundEdges::mostStates);
        holds("when one more is recorded, the oldest one is dropped", GuildFundEdges::oldestDropped);
        holds("undo() removes and restores the latest one", GuildFundEdges::latestRestored);
        holds("Each call of a method that is described as an act, and returns no error and not NONE, records the state "
            + "that was before it", GuildFundEdges::actsRecord);
        holds("(methods that are not described as an act record nothing)", GuildFundEdges::othersRecordNothing);
        holds("There is one snapshot, empty at first", GuildFundEdges::oneSnapshot);
        holds("A state is everything but the text, the history, the snapshot and the latest refusal",
            GuildFundEdges::whatAStateIs);
    }

    private static void mostStates() {
        GuildFund x = new GuildFund();
        due("at first", x.count(14), 0);
        for (int i = 1; i <= 3; i++) {
            x.pass(1);
            due("count(14)", x.count(14), i);
        }
        x.pass(1);
        due("the fourth", x.count(14), 4);
        x.pass(1);
        due("the fifth", x.count(14), 4);
        for (int left = 3; left >= 0; left--) due("undo()", x.undo(), left);
        due("the fifth undo()", x.undo(), NONE);
        due("the day", x.count(0), 1);
    }

    private static void oldestDropped() {
        // Any number of acts behind the fourth, so that each place of the history is the oldest one once.
        for (int acts = 4; acts <= 13; acts++) {
            GuildFund x = new GuildFund();
            for (int i = 0; i < acts; i++) x.pass(1);
            for (int left = 3; left >= 0; left--) {
                due("undo()", x.undo(), left);
                due("the day", x.count(0), acts - 4 + left);
            }
            due("undo()", x.undo(), NONE);
            due("the day", x.count(0), acts - 4);
        }
    }

    private static void latestRestored() {
        GuildFund x = new GuildFund();
        x.pass(1);
        x.pass(2);
        x.pass(4);
        due("undo()", x.undo(), 2);
        due("the day", x.count(0), 3);
        // What comes behind an undo stands on what was restored.
        x.pass(100);
        due("count(14)", x.count(14), 3);
        x.pass(200);
        due("undo()", x.undo(), 3);
        due("the day", x.count(0), 103);
        due("undo()", x.undo(), 2);
        due("the day", x.count(0), 3);
        due("undo()", x.undo(), 1);
        due("undo()", x.undo(), 0);
        due("the day", x.count(0), 0);
        refused("undo() of nothing", y -> {
            busy(y);
            for (int i = 0; i < 4; i++) y.undo();
        }, GuildFund::undo, NONE);
    }

    private static void actsRecord() {
        Setup[] setups = {GuildFundEdges::calm, GuildFundEdges::busy};
        for (Setup setup : setups) {
            int restored = setup == setups[0] ? 120 : 14;
            oneAct("setRate(2, ..)", setup, x -> x.setRate(2, bits(0.2f)), 1);
            oneAct("setNumber(0, 15)", setup, x -> x.setNumber(0, 15), 14);
            oneAct("addMember(5)", setup, x -> x.addMember(5), 3);
            oneAct("payDues(2, 77)", setup, x -> x.payDues(2, 77), 77);
            oneAct("addInvoice(2, 0, 500, 9)", setup, x -> x.addInvoice(2, 0, 500, 9), 5);
            oneAct("payAhead(4)", setup, x -> x.payAhead(4), 3199);
            oneAct("pay(0, 5)", setup, x -> x.pay(0, 5), 99995);
            oneAct("pay(0, 100000)", setup, x -> x.pay(0, 100000), 0);
            oneAct("giveUp(0)", setup, x -> x.giveUp(0), 41500);
            oneAct("readPayments()", setup, GuildFund::readPayments, 1);
            oneAct("readPayments() that settles none", setup, x -> read(x, "4=1,0=1"), 0);
            oneAct("pass(3)", setup, x -> x.pass(3), 123);
            oneAct("restore()", setup, GuildFund::restore, restored);
        }
    }

    private static void othersRecordNothing() {
        Setup[] setups = {GuildFundEdges::calm, GuildFundEdges::busy, GuildFundEdges::nothing};
        for (Setup setup : setups) {
            noAct("keep()", setup, GuildFund::keep, made(setup).count(0));
            noAct("clearText()", setup, GuildFund::clearText, made(setup).count(15));
            noAct("type('1')", setup, x -> x.type('1'), made(setup).count(15) + 1);
            noAct("refusal(0)", setup, x -> x.refusal(0), made(setup).refusal(0));
            noAct("all that is told", setup, x -> state(x).size() + workedOut(x).size(),
                state(made(setup)).size() + workedOut(made(setup)).size());
        }
        // An undo removes a state and records none.
        GuildFund x = made(GuildFundEdges::busy);
        due("undo()", x.undo(), 3);
        due("count(14)", x.count(14), 3);
    }

    private static void oneSnapshot() {
        refused("restore() without one", x -> {
            small(x);
            x.pass(3);
        }, GuildFund::restore, NONE);
        GuildFund x = new GuildFund();
        due("restore()", x.restore(), NONE);
        x.pass(1);
        x.keep();
        x.pass(2);
        x.keep();
        x.pass(4);
        due("the later one", x.restore(), 3);
        due("there is no other", x.restore(), 3);
        due("an undo of a restore", x.undo(), 3);
        due("the day", x.count(0), 3);
    }

    private static void whatAStateIs() {
        everythingElse();
        placesWrittenOver();
        GuildFund x = made(GuildFundEdges::busy);
        x.pass(1);
        read(x, "4=1,9=1");
        typeAll(x, "4=");
        x.undo();
        due("undo(): the length of the text", x.count(15), 2);
        due("undo(): the refusal", x.refusal(0), 1);
        due("undo(): its error", x.refusal(1), UNKNOWN);
        x.restore();
        due("restore(): the history", x.count(14), 4);
        due("restore(): the length of the text", x.count(15), 2);
        due("restore(): the refusal", x.refusal(0), 1);
        due("restore(): its error", x.refusal(1), UNKNOWN);
        x.type('7');
        due("the signs of the text", x.readPayments(), 0);
        due("the signs of the text", x.invoice(4, 5), 7);
        due("undo(): the snapshot", x.restore(), 14);
        x.keep();
        due("keep(): the history", x.count(14), 4);
        x.undo();
        due("undo() behind restore()", x.invoice(4, 5), 7);
    }

    /** An undo and a restore bring back every number of the state. */
    private static void everythingElse() {
        Setup changed = x -> {
            x.setRate(0, bits(0.5f));
            x.setNumber(2, 9);
            x.payDues(2, 5);
            x.pass(7);
        };
        Setup changedMore = x -> {
            x.giveUp(0);
            x.giveUp(1);
            x.pay(4, 8000);
            x.addMember(9);
            x.payDues(3, 12);
            x.addInvoice(3, 0, 100, 0);
            x.payAhead(5);
            x.setRate(1, 0);
            x.setRate(2, 0);
            x.setNumber(0, 0);
            x.setNumber(1, 0);
        };
        GuildFund x = made(GuildFundEdges::busy);
        changed.on(x);
        for (int i = 0; i < 4; i++) x.undo();
        same("undo()", state(x), state(made(GuildFundEdges::busy)));
        GuildFund y = made(GuildFundEdges::busy);
        y.keep();
        changed.on(y);
        changedMore.on(y);
        y.restore();
        same("restore()", state(y), state(made(GuildFundEdges::busy)));
        same("restore()", workedOut(y), workedOut(made(GuildFundEdges::busy)));
        // The snapshot is not what was restored from it: changes of the one leave the other.
        changed.on(y);
        changedMore.on(y);
        y.restore();
        same("restore() again", state(y), state(made(GuildFundEdges::busy)));
    }

    /** Other members and invoices in the places of those of the state: an undo and a restore bring back the first ones. */
    private static void placesWrittenOver() {
        Setup first = x -> {
            x.addMember(3);
            x.addMember(5);
            x.addInvoice(1, 5, 500, 50);
        };
        Setup others = x -> {
            x.addMember(8);
            x.addMember(7);
            x.addInvoice(0, 4, 600, 60);
        };
        GuildFund x = new GuildFund();
        x.keep();
        first.on(x);
        x.restore();
        others.on(x);
        same("others", state(x), state(made(others)));
        for (int i = 0; i < 4; i++) x.undo();
        same("undo()", state(x), state(made(first)));
        GuildFund y = made(first);
        y.keep();
        for (int i = 0; i < 3; i++) y.undo();
        others.on(y);
        y.restore();
        same("restore()", state(y), state(made(first)));
        y.undo();
        same("undo() of it", state(y), state(made(others)));
    }

    // ---- ERRORS

    private static void termsOfErrors() {
        holds("The constants", GuildFundEdges::constants);
        holds("Where several errors can apply, the order of the @return line is the order of the checks",
            GuildFundEdges::orderOfChecks);
        holds("NONE is no error; it is returned only if no error applies", GuildFundEdges::errorsBeforeNone);
        holds("A call that returns an error or NONE changes nothing", GuildFundEdges::errorsChangeNothing);
        holds("(but for the latest refusal of readPayments())", GuildFundEdges::butForTheRefusal);
        holds("Methods that return a float tell a NaN if an argument is wrong", GuildFundEdges::wrongFloats);
    }

    private static void constants() {
        due("UNKNOWN", GuildFund.UNKNOWN, -1);
        due("BAD_VALUE", GuildFund.BAD_VALUE, -2);
        due("FULL", GuildFund.FULL, -3);
        due("NOT_POSSIBLE", GuildFund.NOT_POSSIBLE, -4);
        due("NONE", GuildFund.NONE, -5);
    }

    private static void orderOfChecks() {
        Setup busy = GuildFundEdges::busy;
        refused("setRate: UNKNOWN; BAD_VALUE", busy, x -> x.setRate(3, MIN), UNKNOWN);
        refused("setNumber: UNKNOWN; BAD_VALUE", busy, x -> x.setNumber(3, -1), UNKNOWN);
        refused("addMember: BAD_VALUE; FULL", GuildFundEdges::eightMembers, x -> x.addMember(0), BAD_VALUE);
        refused("payDues: UNKNOWN; BAD_VALUE", busy, x -> x.payDues(3, 0), UNKNOWN);
        Setup allDues = x -> {
            richMember(x);
            x.payDues(0, 1);
        };
        refused("payDues: BAD_VALUE; FULL", allDues, x -> x.payDues(0, 1000001), BAD_VALUE);
        refused("payDues: BAD_VALUE; FULL", allDues, x -> x.payDues(0, MAX), BAD_VALUE);
        refused("payDues: FULL", allDues, x -> x.payDues(0, 1000000), FULL);
        refused("addInvoice: UNKNOWN (member); BAD_VALUE", busy, x -> x.addInvoice(3, 0, 99, 0), UNKNOWN);
        refused("addInvoice: UNKNOWN (client); BAD_VALUE", busy, x -> x.addInvoice(0, 6, 100, -1), UNKNOWN);
        Setup twenty = GuildFundEdges::twentyInvoices;
        refused("addInvoice: UNKNOWN (member); FULL", twenty, x -> x.addInvoice(1, 0, 100, 0), UNKNOWN);
        refused("addInvoice: UNKNOWN (client); FULL", twenty, x -> x.addInvoice(0, 6, 100, 0), UNKNOWN);
        refused("addInvoice: BAD_VALUE (amount); FULL", twenty, x -> x.addInvoice(0, 0, 99, 0), BAD_VALUE);
        refused("addInvoice: BAD_VALUE (day); FULL", twenty, x -> x.addInvoice(0, 0, 100, 10000), BAD_VALUE);
        refused("pay: UNKNOWN; BAD_VALUE", busy, x -> x.pay(5, 0), UNKNOWN);
        refused("pay: NOT_POSSIBLE (settled); BAD_VALUE", busy, x -> x.pay(2, 0), NOT_POSSIBLE);
        refused("pay: NOT_POSSIBLE (settled); BAD_VALUE", busy, x -> x.pay(2, 1), NOT_POSSIBLE);
        refused("pay: NOT_POSSIBLE (lost); BAD_VALUE", busy, x -> x.pay(3, 9001), NOT_POSSIBLE);
        faulty("99=1,", 5);
        refused("pass: BAD_VALUE; NOT_POSSIBLE", x -> {
            lastDays(x);
            x.pass(354);
        }, x -> x.pass(366), BAD_VALUE);
        refused("member: UNKNOWN; BAD_VALUE", busy, x -> x.member(3, 6), UNKNOWN);
        refused("client: UNKNOWN; BAD_VALUE", busy, x -> x.client(6, 4), UNKNOWN);
        refused("invoice: UNKNOWN; BAD_VALUE", busy, x -> x.invoice(5, 11), UNKNOWN);
    }

    private static void errorsBeforeNone() {
        GuildFund x = new GuildFund();
        due("setNumber(3, 14)", x.setNumber(3, 14), UNKNOWN);
        due("refusal(2)", x.refusal(2), BAD_VALUE);
        due("refusal(-1)", x.refusal(-1), BAD_VALUE);
        due("best(-1)", x.best(-1), BAD_VALUE);
        due("worthlessIn(0)", x.worthlessIn(0), UNKNOWN);
        x.setRate(1, 0);
        due("-0.0f where 0.0f is set", x.setRate(1, bits(-0.0f)), BAD_VALUE);
        due("0.0f where 0.0f is set", x.setRate(1, 0), NONE);
    }

    private static void errorsChangeNothing() {
        Setup busy = GuildFundEdges::busy;
        refused("setRate(0, the same)", busy, x -> x.setRate(0, bits(0.9f)), NONE);
        refused("setNumber(0, the same)", busy, x -> x.setNumber(0, 14), NONE);
        refused("payAhead(0)", busy, x -> x.payAhead(0), NOT_POSSIBLE);
        refused("giveUp(1)", busy, x -> x.giveUp(1), NOT_POSSIBLE);
        refused("pay(0, 0)", busy, x -> x.pay(0, 0), BAD_VALUE);
        refused("refusal(2)", busy, x -> x.refusal(2), BAD_VALUE);
        refused("best(1)", busy, x -> x.best(1), NONE);
        refused("worthlessIn(5)", busy, x -> x.worthlessIn(5), UNKNOWN);
        refused("number(3)", busy, x -> x.number(3), UNKNOWN);
        refused("count(16)", busy, x -> x.count(16), BAD_VALUE);
    }

    private static void butForTheRefusal() {
        GuildFund x = made(GuildFundEdges::busy);
        due("refusal(0)", x.refusal(0), 0);
        due("refusal(1)", x.refusal(1), NOT_POSSIBLE);
        due("a refusal", read(x, "0=1,9=1"), NOT_POSSIBLE);
        due("refusal(0)", x.refusal(0), 1);
        due("refusal(1)", x.refusal(1), UNKNOWN);
        // A fault is no refusal of a payment, nor is an error of pay().
        due("a fault", read(x, "0=1,9"), -105);
        x.pay(0, 0);
        due("refusal(0)", x.refusal(0), 1);
        due("refusal(1)", x.refusal(1), UNKNOWN);
    }

    private static void wrongFloats() {
        int[] noRates = {-1, 3, MIN, MAX};
        for (int which : noRates) noNumber("rate(" + which + ")", GuildFundEdges::busy, x -> x.rate(which));
        int[] noClients = {-1, 6, MIN, MAX};
        for (int client : noClients) {
            noNumber("risk(" + client + ")", GuildFundEdges::busy, x -> x.risk(client));
            noNumber("lateness(" + client + ")", GuildFundEdges::busy, x -> x.lateness(client));
        }
        int[] noInvoices = {-1, 5, 20, MIN, MAX};
        for (int invoice : noInvoices) {
            noNumber("rateIn(" + invoice + ", 0)", GuildFundEdges::busy, x -> x.rateIn(invoice, 0));
            noNumber("worth(" + invoice + ")", GuildFundEdges::busy, x -> x.worth(invoice));
        }
        int[] noDays = {-1, 1001, MIN, MAX};
        for (int days : noDays) noNumber("rateIn(0, " + days + ")", GuildFundEdges::busy, x -> x.rateIn(0, days));
        GuildFund x = made(GuildFundEdges::busy);
        for (int i = 0; i < 3; i++) due("rate() is a number", x.rate(i) >= 0.0f ? 1 : 0, 1);
        for (int i = 0; i < 6; i++) due("risk() is a number", x.risk(i) > 0.0f ? 1 : 0, 1);
        for (int i = 0; i < 6; i++) due("lateness() is a number", x.lateness(i) >= 0.0f ? 1 : 0, 1);
        for (int i = 0; i < 5; i++) due("rateIn(.., 1000) is a number", x.rateIn(i, 1000) >= 0.0f ? 1 : 0, 1);
        for (int i = 0; i < 5; i++) due("worth() is a number", x.worth(i) >= 0.0f ? 1 : 0, 1);
    }

    // ---- promises 1 to 3

    private static void settings() {
        holds("Promise 1: Creates a fund without members", GuildFundEdges::newObject);
        holds("Promise 2: which: 0 to 2", GuildFundEdges::ratesOnly);
        holds("Promise 2: Returns 1", GuildFundEdges::setRateAnswersOne);
        holds("Promise 2: BAD_VALUE (no number", GuildFundEdges::noNumbers);
        holds("Promise 2: BAD_VALUE (.. or -0.0f)", GuildFundEdges::minusZero);
        holds("Promise 2: NONE if it is so already", GuildFundEdges::rateAlready);
        holds("Promise 3: which: 0 to 2", GuildFundEdges::numbersOnly);
        holds("Promise 3: Returns the previous one", GuildFundEdges::previousNumber);
        holds("Promise 3: NONE if it is so already", GuildFundEdges::numberAlready);
    }

    private static void newObject() {
        GuildFund x = new GuildFund();
        for (int what = 0; what <= 15; what++) due("count(" + what + ")", x.count(what), what == 1 ? BILLION : 0);
        for (int i = -1; i <= 8; i++) due("member(" + i + ", 0)", x.member(i, 0), UNKNOWN);
        for (int i = -1; i <= 20; i++) due("invoice(" + i + ", 0)", x.invoice(i, 0), UNKNOWN);
        float[] rates = {0.9f, 0.005f, 0.1f};
        int[] numbers = {14, 20, 120};
        for (int i = 0; i < 3; i++) {
            due("rate(" + i + ")", x.rate(i), rates[i]);
            due("number(" + i + ")", x.number(i), numbers[i]);
        }
        due("undo()", x.undo(), NONE);
        due("restore()", x.restore(), NONE);
        due("refusal(0)", x.refusal(0), NONE);
        due("best(0)", x.best(0), NONE);
        // Two objects share nothing.
        busy(x);
        same("another fund", state(new GuildFund()), state(made(GuildFundEdges::nothing)));
        due("another fund's count(4)", new GuildFund().count(4), 0);
    }

    private static void ratesOnly() {
        int[] bad = {-1, 3, MIN, MAX};
        for (int which : bad) {
            refused("setRate(" + which + ", ..)", GuildFundEdges::busy, x -> x.setRate(which, bits(0.2f)), UNKNOWN);
        }
        GuildFund x = new GuildFund();
        float[] values = {0.2f, 0.02f, 0.3f};
        for (int i = 0; i < 3; i++) due("setRate(" + i + ", ..)", x.setRate(i, bits(values[i])), 1);
        for (int i = 0; i < 3; i++) due("rate(" + i + ")", x.rate(i), values[i]);
    }

    /** Floats of each exponent, those without a hidden one too, are told as they were set. */
    private static void setRateAnswersOne() {
        int[] fractions = {0, 1, 0x2AAAAA, 0x555555, 0x7FFFFF};
        for (int fraction : fractions) {
            GuildFund x = new GuildFund();
            x.setRate(2, bits(0.5f));
            for (int exponent = 0; exponent <= 125; exponent++) {
                int shape = exponent << 23 | fraction;
                due("setRate(2, " + shape + ")", x.setRate(2, shape), 1);
                due("rate(2)", bits(x.rate(2)), shape);
            }
        }
        GuildFund x = new GuildFund();
        due("the least above 0", x.setRate(1, 1), 1);
        due("rate(1)", bits(x.rate(1)), 1);
        due("0.0f", x.setRate(1, 0), 1);
        due("rate(1)", bits(x.rate(1)), 0);
    }

    private static void noNumbers() {
        int[] bad = {
            bits(Float.NaN), 0x7F800001, 0x7FFFFFFF, 0xFF800001, 0xFFC00000, -1,
            bits(Float.POSITIVE_INFINITY), bits(Float.NEGATIVE_INFINITY),
        };
        for (int which = 0; which < 3; which++) {
            int rate = which;
            for (int value : bad) {
                refused("setRate(" + rate + ", " + value + ")", GuildFundEdges::busy, x -> x.setRate(rate, value), BAD_VALUE);
            }
        }
    }

    private static void minusZero() {
        for (int which = 0; which < 3; which++) {
            int rate = which;
            Setup lowest = x -> {
                busy(x);
                x.setRate(rate, bits(rate == 0 ? 0.1f : 0.0f));
            };
            refused("setRate(" + rate + ", -0.0f)", lowest, x -> x.setRate(rate, bits(-0.0f)), BAD_VALUE);
        }
        GuildFund x = new GuildFund();
        due("setRate(1, 0.0f)", x.setRate(1, bits(0.0f)), 1);
        due("setRate(2, 0.0f)", x.setRate(2, bits(0.0f)), 1);
        due("setRate(0, 0.0f)", x.setRate(0, bits(0.0f)), BAD_VALUE);
    }

    private static void rateAlready() {
        float[] first = {0.9f, 0.005f, 0.1f};
        for (int which = 0; which < 3; which++) {
            int rate = which;
            refused("the first value", GuildFundEdges::busy, x -> x.setRate(rate, bits(first[rate])), NONE);
            oneAct("a little more", GuildFundEdges::busy, x -> x.setRate(rate, bits(Math.nextUp(first[rate]))), 1);
            oneAct("a little less", GuildFundEdges::busy, x -> x.setRate(rate, bits(Math.nextDown(first[rate]))), 1);
            refused("the same again", x -> {
                busy(x);
                x.setRate(rate, bits(Math.nextUp(first[rate])));
            }, x -> x.setRate(rate, bits(Math.nextUp(first[rate]))), NONE);
        }
    }

    private static void numbersOnly() {
        int[] bad = {-1, 3, MIN, MAX};
        for (int which : bad) refused("setNumber(" + which + ", 20)", GuildFundEdges::busy, x -> x.setNumber(which, 20), UNKNOWN);
        GuildFund x = new GuildFund();
        for (int i = 0; i < 3; i++) due("setNumber(" + i + ", ..)", x.setNumber(i, 31 + i) > 0 ? 1 : 0, 1);
        for (int i = 0; i < 3; i++) due("number(" + i + ")", x.number(i), 31 + i);
    }

    private static void previousNumber() {
        GuildFund x = new GuildFund();
        due("setNumber(0, 0)", x.setNumber(0, 0), 14);
        due("setNumber(0, 90)", x.setNumber(0, 90), 0);
        due("setNumber(0, 1)", x.setNumber(0, 1), 90);
        x.undo();
        due("behind an undo", x.setNumber(0, 2), 90);
    }

    private static void numberAlready() {
        int[] first = {14, 20, 120};
        for (int which = 0; which < 3; which++) {
            int number = which;
            refused("the first value", GuildFundEdges::busy, x -> x.setNumber(number, first[number]), NONE);
            oneAct("one more", GuildFundEdges::busy, x -> x.setNumber(number, first[number] + 1), first[number]);
            oneAct("one less", GuildFundEdges::busy, x -> x.setNumber(number, first[number] - 1), first[number]);
        }
        refused("0 again", x -> {
            busy(x);
            x.setNumber(1, 0);
        }, x -> x.setNumber(1, 0), NONE);
    }

    // ---- promises 4 to 6

    private static void membersAndInvoices() {
        holds("Promise 4: Returns its number; .. FULL if there are 8", GuildFundEdges::memberNumbers);
        holds("Promise 5: member: a member", GuildFundEdges::duesOfMembersOnly);
        holds("Promise 5: cents: 1 to 1000000", GuildFundEdges::duesCents);
        holds("Promise 5: they come to the balance", GuildFundEdges::duesComeToBalance);
        holds("Promise 5: Returns all dues that it has paid then", GuildFundEdges::duesTogether);
        holds("Promise 5: FULL if these (its own) would be more than 100000000", GuildFundEdges::mostDues);
        holds("Promise 6: member: a member", GuildFundEdges::invoicesOfMembersOnly);
        holds("Promise 6: client: 0 to 5", GuildFundEdges::invoicesToClientsOnly);
        holds("Promise 6: due: the day at which it is due, 0 to 9999", GuildFundEdges::dueDays);
        holds("Promise 6: Returns its number; .. FULL if there are 20", GuildFundEdges::invoiceNumbers);
    }

    private static void memberNumbers() {
        GuildFund x = new GuildFund();
        for (int i = 0; i < 7; i++) due("addMember(3)", x.addMember(3), i);
        due("the eighth", x.addMember(9), 7);
        due("the ninth", x.addMember(1), FULL);
        due("count(4)", x.count(4), 8);
        refused("the ninth, of weight 9", GuildFundEdges::eightMembers, y -> y.addMember(9), FULL);
        refused("the ninth, of weight 10", GuildFundEdges::eightMembers, y -> y.addMember(10), BAD_VALUE);
    }

    private static void duesOfMembersOnly() {
        int[] bad = {-1, 3, 8, MIN, MAX};
        for (int member : bad) refused("payDues(" + member + ", 1)", GuildFundEdges::busy, x -> x.payDues(member, 1), UNKNOWN);
        refused("payDues(0, 1) without members", GuildFundEdges::nothing, x -> x.payDues(0, 1), UNKNOWN);
        refused("payDues(8, 1) of eight", GuildFundEdges::eightMembers, x -> x.payDues(8, 1), UNKNOWN);
        oneAct("payDues(0, 1)", GuildFundEdges::busy, x -> x.payDues(0, 1), 500001);
        oneAct("payDues(2, 1)", GuildFundEdges::busy, x -> x.payDues(2, 1), 1);
        oneAct("payDues(7, 1)", GuildFundEdges::eightMembers, x -> x.payDues(7, 1), 1);
    }

    private static void duesCents() {
        int[] bad = {0, 1000001, -1, MIN, MAX};
        for (int cents : bad) refused("payDues(2, " + cents + ")", GuildFundEdges::busy, x -> x.payDues(2, cents), BAD_VALUE);
        oneAct("payDues(2, 1)", GuildFundEdges::busy, x -> x.payDues(2, 1), 1);
        oneAct("payDues(2, 1000000)", GuildFundEdges::busy, x -> x.payDues(2, 1000000), 1000000);
    }

    private static void duesComeToBalance() {
        GuildFund x = made(GuildFundEdges::busy);
        int before = balance(x);
        x.payDues(2, 123);
        due("the balance", balance(x), before + 123);
        due("member(2, 1)", x.member(2, 1), 123);
        due("not to the purse", purse(x, 2), 7000);
        due("count(2)", x.count(2), 700123);
    }

    private static void duesTogether() {
        GuildFund x = made(GuildFundEdges::eightMembers);
        due("payDues(7, 5)", x.payDues(7, 5), 5);
        due("payDues(7, 6)", x.payDues(7, 6), 11);
        due("payDues(6, 1)", x.payDues(6, 1), 1);
        due("member(7, 1)", x.member(7, 1), 11);
        due("count(2)", x.count(2), 12);
    }

    private static void mostDues() {
        oneAct("100000000", GuildFundEdges::richMember, x -> x.payDues(0, 1), 100000000);
        refused("100000001", GuildFundEdges::richMember, x -> x.payDues(0, 2), FULL);
        Setup allDues = x -> {
            richMember(x);
            x.payDues(0, 1);
        };
        refused("a cent more", allDues, x -> x.payDues(0, 1), FULL);
        // Its own: the dues of another member don't count.
        oneAct("of another member", allDues, x -> x.payDues(1, 1000000), 1000000);
        GuildFund x = made(allDues);
        x.payDues(1, 7);
        due("count(2)", x.count(2), 100000007);
        due("balance", balance(x), 100000007);
    }

    private static void invoicesOfMembersOnly() {
        int[] bad = {-1, 3, 8, MIN, MAX};
        for (int member : bad) {
            refused("member " + member, GuildFundEdges::busy, x -> x.addInvoice(member, 0, 100, 0), UNKNOWN);
        }
        refused("without members", GuildFundEdges::nothing, x -> x.addInvoice(0, 0, 100, 0), UNKNOWN);
        oneAct("member 0", GuildFundEdges::busy, x -> x.addInvoice(0, 0, 100, 0), 5);
        oneAct("member 2", GuildFundEdges::busy, x -> x.addInvoice(2, 0, 100, 0), 5);
        oneAct("member 7", GuildFundEdges::eightMembers, x -> x.addInvoice(7, 0, 100, 0), 0);
        refused("member 8 of eight", GuildFundEdges::eightMembers, x -> x.addInvoice(8, 0, 100, 0), UNKNOWN);
    }

    private static void invoicesToClientsOnly() {
        int[] bad = {-1, 6, MIN, MAX};
        for (int client : bad) {
            refused("client " + client, GuildFundEdges::busy, x -> x.addInvoice(0, client, 100, 0), UNKNOWN);
        }
        oneAct("client 0", GuildFundEdges::busy, x -> x.addInvoice(0, 0, 100, 0), 5);
        oneAct("client 5", GuildFundEdges::busy, x -> x.addInvoice(0, 5, 100, 0), 5);
    }

    private static void dueDays() {
        int[] bad = {-1, 10000, MIN, MAX};
        for (int day : bad) refused("due at " + day, GuildFundEdges::busy, x -> x.addInvoice(0, 0, 100, day), BAD_VALUE);
        GuildFund x = made(GuildFundEdges::busy);
        due("due at 0", x.addInvoice(0, 0, 100, 0), 5);
        due("due at 9999", x.addInvoice(0, 0, 100, 9999), 6);
        due("invoice(5, 3)", x.invoice(5, 3), 0);
        due("invoice(6, 3)", x.invoice(6, 3), 9999);
    }

    private static void invoiceNumbers() {
        GuildFund x = new GuildFund();
        x.addMember(1);
        for (int i = 0; i < 20; i++) due("addInvoice()", x.addInvoice(0, 0, 100, 0), i);
        due("the 21st", x.addInvoice(0, 0, 100, 0), FULL);
        due("count(5)", x.count(5), 20);
        due("count(6)", x.count(6), 20);
        refused("the 21st, the largest", GuildFundEdges::twentyInvoices, y -> y.addInvoice(0, 5, 1000000, 9999), FULL);
    }

    // ---- promises 7 to 12

    private static void theFund() {
        holds("Promise 7: invoice: an invoice", GuildFundEdges::aheadOfInvoicesOnly);
        holds("Promise 7: Returns the advance; .. NOT_POSSIBLE if it cannot be paid ahead", GuildFundEdges::advances);
        holds("Promise 8: invoice: an invoice", GuildFundEdges::payInvoicesOnly);
        holds("Promise 8: cents: 1 to what is left of its amount", GuildFundEdges::payCents);
        holds("Promise 8: Returns what is left then", GuildFundEdges::whatIsLeft);
        holds("Promise 8: NOT_POSSIBLE if it is settled or lost", GuildFundEdges::payOpenOrAhead);
        holds("Promise 9: invoice: an invoice", GuildFundEdges::giveUpInvoicesOnly);
        holds("Promise 9: Returns the loss that is shared; .. NOT_POSSIBLE if it cannot be given up", GuildFundEdges::lossesTold);
        holds("Promise 10: Does the payments of the text, which stays, one after the other", GuildFundEdges::oneAfterTheOther);
        holds("Promise 10: all of them, or none", GuildFundEdges::allOrNone);
        holds("Promise 10: This is one act", GuildFundEdges::oneActOfMany);
        holds("Promise 10: Returns how many invoices are settled by them", GuildFundEdges::howManySettled);
        holds("Promise 10: -100 minus the fault of the text if it has one (which is an error)", GuildFundEdges::faultsTold);
        holds("Promise 10: NOT_POSSIBLE if any payment would return an error when its turn comes", GuildFundEdges::atItsTurn);
        holds("Promise 11: what: 0 .., 1 ..", GuildFundEdges::refusalWhat);
        holds("Promise 11: the number of the payment in its text, from 0", GuildFundEdges::refusedNumber);
        holds("Promise 11: the error that pay() would have returned", GuildFundEdges::refusedError);
        holds("Promise 11: NONE if none was refused yet", GuildFundEdges::noneRefusedYet);
        holds("Promise 11: Tells of the latest refusal", GuildFundEdges::latestRefusal);
        holds("Promise 12: days: 1 to 365", GuildFundEdges::passDays);
        holds("Promise 12: NOT_POSSIBLE if it would be more than 99999", GuildFundEdges::lastDay);
    }

    private static void aheadOfInvoicesOnly() {
        int[] bad = {-1, 5, 20, MIN, MAX};
        for (int invoice : bad) refused("payAhead(" + invoice + ")", GuildFundEdges::busy, x -> x.payAhead(invoice), UNKNOWN);
        refused("payAhead(0) without invoices", GuildFundEdges::eightMembers, x -> x.payAhead(0), UNKNOWN);
        refused("payAhead(20) of twenty", GuildFundEdges::twentyInvoices, x -> x.payAhead(20), UNKNOWN);
        oneAct("the last one", GuildFundEdges::busy, x -> x.payAhead(4), 3199);
        oneAct("the first one", GuildFundEdges::small, x -> x.payAhead(0), 2250);
        oneAct("the twentieth", x -> {
            twentyInvoices(x);
            x.payDues(0, 1000000);
            x.pass(33);
        }, x -> x.payAhead(19), (int) (1019.0f * ((0.9f - 0.005f * 14.0f) * 0.5f)));
    }

    private static void advances() {
        GuildFund x = made(GuildFundEdges::small);
        due("the offer", x.invoice(0, 8), 2250);
        due("payAhead(0)", x.payAhead(0), 2250);
        due("payAhead(0) again", x.payAhead(0), NOT_POSSIBLE);
        due("count(10)", x.count(10), 2250);
        due("payAhead(1)", x.payAhead(1), 2250);
        due("count(10)", x.count(10), 4500);
        refused("again", GuildFundEdges::busy, y -> y.payAhead(1), NOT_POSSIBLE);
        refused("a settled one", GuildFundEdges::busy, y -> y.payAhead(2), NOT_POSSIBLE);
        refused("a lost one", GuildFundEdges::busy, y -> y.payAhead(3), NOT_POSSIBLE);
    }

    private static void payInvoicesOnly() {
        int[] bad = {-1, 5, 20, MIN, MAX};
        for (int invoice : bad) refused("pay(" + invoice + ", 1)", GuildFundEdges::busy, x -> x.pay(invoice, 1), UNKNOWN);
        refused("pay(0, 1) without invoices", GuildFundEdges::eightMembers, x -> x.pay(0, 1), UNKNOWN);
        refused("pay(20, 1) of twenty", GuildFundEdges::twentyInvoices, x -> x.pay(20, 1), UNKNOWN);
        oneAct("pay(0, 1)", GuildFundEdges::busy, x -> x.pay(0, 1), 99999);
        oneAct("pay(4, 1)", GuildFundEdges::busy, x -> x.pay(4, 1), 7999);
        oneAct("pay(19, 1)", GuildFundEdges::twentyInvoices, x -> x.pay(19, 1), 1018);
    }

    private static void payCents() {
        int[] bad = {0, 8001, -1, 1000000, MIN, MAX};
        for (int cents : bad) refused("pay(4, " + cents + ")", GuildFundEdges::busy, x -> x.pay(4, cents), BAD_VALUE);
        oneAct("pay(4, 1)", GuildFundEdges::busy, x -> x.pay(4, 1), 7999);
        oneAct("pay(4, 7999)", GuildFundEdges::busy, x -> x.pay(4, 7999), 1);
        oneAct("pay(4, 8000)", GuildFundEdges::busy, x -> x.pay(4, 8000), 0);
        Setup inPart = x -> {
            busy(x);
            x.pay(4, 3000);
            x.pay(0, 60000);
        };
        refused("a cent more than is left of an open one", inPart, x -> x.pay(4, 5001), BAD_VALUE);
        oneAct("all that is left of an open one", inPart, x -> x.pay(4, 5000), 0);
        refused("a cent more than is left of one ahead", inPart, x -> x.pay(0, 40001), BAD_VALUE);
        oneAct("all that is left of one ahead", inPart, x -> x.pay(0, 40000), 0);
    }

    private static void whatIsLeft() {
        GuildFund x = made(GuildFundEdges::busy);
        due("pay(4, 1)", x.pay(4, 1), 7999);
        due("pay(4, 99)", x.pay(4, 99), 7900);
        due("pay(4, 7899)", x.pay(4, 7899), 1);
        due("invoice(4, 5)", x.invoice(4, 5), 7999);
        due("pay(4, 1)", x.pay(4, 1), 0);
        due("invoice(4, 5)", x.invoice(4, 5), 8000);
        due("count(11)", x.count(11), 7000 + 8000);
    }

    private static void payOpenOrAhead() {
        oneAct("open", GuildFundEdges::busy, x -> x.pay(4, 1), 7999);
        oneAct("ahead", GuildFundEdges::busy, x -> x.pay(0, 1), 99999);
        refused("settled", GuildFundEdges::busy, x -> x.pay(2, 1), NOT_POSSIBLE);
        refused("lost", GuildFundEdges::busy, x -> x.pay(3, 1), NOT_POSSIBLE);
        refused("lost, that was ahead", x -> {
            busy(x);
            x.giveUp(0);
        }, x -> x.pay(0, 1), NOT_POSSIBLE);
    }

    private static void giveUpInvoicesOnly() {
        int[] bad = {-1, 5, 20, MIN, MAX};
        for (int invoice : bad) refused("giveUp(" + invoice + ")", GuildFundEdges::busy, x -> x.giveUp(invoice), UNKNOWN);
        refused("giveUp(0) without invoices", GuildFundEdges::eightMembers, x -> x.giveUp(0), UNKNOWN);
        oneAct("the first one", GuildFundEdges::busy, x -> x.giveUp(0), 41500);
        Setup old = x -> {
            twentyInvoices(x);
            x.pass(139);
        };
        refused("giveUp(20) of twenty", old, x -> x.giveUp(20), UNKNOWN);
        oneAct("the twentieth", old, x -> x.giveUp(19), 0);
    }

    private static void lossesTold() {
        GuildFund x = made(GuildFundEdges::busy);
        x.pay(0, 1500);
        due("giveUp(0)", x.giveUp(0), 40000);
        due("count(13)", x.count(13), 40000);
        due("shares", borne(x, 0) + borne(x, 1) + borne(x, 2), 40000);
        due("giveUp(0) again", x.giveUp(0), NOT_POSSIBLE);
        refused("a settled one", GuildFundEdges::busy, y -> y.giveUp(2), NOT_POSSIBLE);
        refused("a lost one", GuildFundEdges::busy, y -> y.giveUp(3), NOT_POSSIBLE);
        refused("too young", GuildFundEdges::busy, y -> y.giveUp(4), NOT_POSSIBLE);
    }

    private static void oneAfterTheOther() {
        GuildFund x = made(GuildFundEdges::busy);
        due("the length", x.count(15), 6);
        due("readPayments()", x.readPayments(), 1);
        due("the length stays", x.count(15), 6);
        due("the text stays: it is done already", x.readPayments(), NOT_POSSIBLE);
        x.undo();
        due("the text stays: it can be done again", x.readPayments(), 1);
        due("twice of one invoice", read(x, "0=99999,0=1"), 1);
        due("state", x.invoice(0, 4), SETTLED);
        // Each payment goes where pay() would bring it.
        GuildFund y = made(GuildFundEdges::busy);
        GuildFund twin = made(GuildFundEdges::busy);
        due("three payments", read(y, "1=40001,4=3,0=100000"), 2);
        twin.pay(1, 40001);
        twin.pay(4, 3);
        twin.pay(0, 100000);
        same("as three calls of pay()", state(y), state(twin));
    }

    private static void allOrNone() {
        refusedPayment(GuildFundEdges::busy, "4=8000,0=100000,5=1", 2, UNKNOWN);
        refusedPayment(GuildFundEdges::busy, "1=40001,2=1,4=1", 1, NOT_POSSIBLE);
        refusedPayment(GuildFundEdges::calm, "4=8000,0=100000,5=1", 2, UNKNOWN);
        GuildFund x = made(GuildFundEdges::busy);
        due("none", read(x, "4=8000,5=1"), NOT_POSSIBLE);
        due("invoice(4, 5)", x.invoice(4, 5), 0);
        due("all", read(x, "4=8000,0=1"), 1);
        due("invoice(4, 5)", x.invoice(4, 5), 8000);
        due("invoice(0, 5)", x.invoice(0, 5), 1);
    }

    private static void oneActOfMany() {
        Setup typed = x -> {
            calm(x);
            typeAll(x, "0=1,0=2,0=3,0=4,0=5,4=8000");
        };
        due("one state is there", made(typed).count(14), 1);
        oneAct("six payments", typed, GuildFund::readPayments, 1);
        GuildFund x = made(typed);
        x.readPayments();
        due("count(14)", x.count(14), 2);
        x.undo();
        due("all of them are taken back", x.invoice(0, 5), 0);
    }

    private static void howManySettled() {
        taken("3=1", 0);
        taken("3=1003", 1);
        taken("3=1,4=1004,5=1005,3=1002", 3);
        // Seven texts of 7 or 8 characters are the most that fit: 1000 is the least amount here.
        taken("0=1000,1=1001,2=1002,3=1003,4=1004,5=1005,6=1006,7=1007", 8);
        GuildFund x = new GuildFund();
        x.addMember(1);
        for (int i = 0; i < 10; i++) x.addInvoice(0, 0, 100, 0);
        due("ten settled", read(x, "0=100,1=100,2=100,3=100,4=100,5=100,6=100,7=100,8=100,9=100"), 10);
        due("count(8)", x.count(8), 10);
        due("client(0, 0)", x.client(0, 0), 10);
    }

    private static void faultsTold() {
        GuildFund x = new GuildFund();
        due("fault 0", x.readPayments(), -100);
        due("fault 1", read(x, "1"), -101);
        due("fault 60", read(x, times(15, "1=1,")), -160);
        // A fault is told, although the payment before it would be refused.
        faulty("9=1,x", 4);
        faulty("4=0", 2);
    }

    private static void atItsTurn() {
        refusedPayment(GuildFundEdges::busy, "4=8000,4=1", 1, NOT_POSSIBLE);
        refusedPayment(GuildFundEdges::busy, "4=7999,4=2", 1, BAD_VALUE);
        taken("3=1002,3=1", 1);
        refusedPayment(GuildFundEdges::twentyInvoices, "3=1002,3=2", 1, BAD_VALUE);
        refusedPayment(GuildFundEdges::twentyInvoices, "19=1,20=1", 1, UNKNOWN);
        refusedPayment(GuildFundEdges::busy, "3=1", 0, NOT_POSSIBLE);
        refusedPayment(GuildFundEdges::busy, "4=8001", 0, BAD_VALUE);
    }

    private static void refusalWhat() {
        int[] bad = {-1, 2, MIN, MAX};
        for (int what : bad) {
            refused("refusal(" + what + ")", GuildFundEdges::busy, x -> x.refusal(what), BAD_VALUE);
            refused("refusal(" + what + ") of none", GuildFundEdges::small, x -> x.refusal(what), BAD_VALUE);
        }
        GuildFund x = made(GuildFundEdges::busy);
        due("refusal(0)", x.refusal(0), 0);
        due("refusal(1)", x.refusal(1), NOT_POSSIBLE);
    }

    private static void refusedNumber() {
        refusedPayment(GuildFundEdges::twentyInvoices, "20=1," + times(13, "3=1,") + "3=1", 0, UNKNOWN);
        refusedPayment(GuildFundEdges::twentyInvoices, times(14, "3=1,") + "99=1", 14, UNKNOWN);
        refusedPayment(GuildFundEdges::twentyInvoices, times(7, "3=1,") + "99=1," + times(6, "3=1,") + "3=1", 7, UNKNOWN);
        // The first one that is refused, not the last one.
        refusedPayment(GuildFundEdges::twentyInvoices, "3=1,50=1,3=5000,51=1", 1, UNKNOWN);
    }

    private static void refusedError() {
        String[] texts = {"5=1", "2=1", "3=1", "4=8001", "0=100001"};
        int[] invoices = {5, 2, 3, 4, 0};
        int[] cents = {1, 1, 1, 8001, 100001};
        int[] errors = {UNKNOWN, NOT_POSSIBLE, NOT_POSSIBLE, BAD_VALUE, BAD_VALUE};
        for (int i = 0; i < texts.length; i++) {
            refusedPayment(GuildFundEdges::busy, texts[i], 0, errors[i]);
            due("pay() of " + texts[i], made(GuildFundEdges::busy).pay(invoices[i], cents[i]), errors[i]);
        }
    }

    private static void noneRefusedYet() {
        Setup notRefused = x -> {
            small(x);
            read(x, "0=");
            read(x, "");
            read(x, "0=1");
            x.pay(9, 1);
            x.pay(0, 0);
        };
        refused("refusal(0)", notRefused, x -> x.refusal(0), NONE);
        refused("refusal(1)", notRefused, x -> x.refusal(1), NONE);
        GuildFund x = made(notRefused);
        read(x, "2=1");
        due("refusal(0)", x.refusal(0), 0);
        due("refusal(1)", x.refusal(1), UNKNOWN);
    }

    private static void latestRefusal() {
        GuildFund x = made(GuildFundEdges::busy);
        read(x, "0=1,0=1,0=1,9=1");
        due("refusal(0)", x.refusal(0), 3);
        due("refusal(1)", x.refusal(1), UNKNOWN);
        read(x, "4=8001");
        due("refusal(0)", x.refusal(0), 0);
        due("refusal(1)", x.refusal(1), BAD_VALUE);
        due("a success leaves it", read(x, "4=8000"), 1);
        due("refusal(0)", x.refusal(0), 0);
        due("refusal(1)", x.refusal(1), BAD_VALUE);
        read(x, "0=1,4=1");
        due("refusal(0)", x.refusal(0), 1);
        due("refusal(1)", x.refusal(1), NOT_POSSIBLE);
        x.clearText();
        due("refusal(0)", x.refusal(0), 1);
        due("refusal(1)", x.refusal(1), NOT_POSSIBLE);
    }

    private static void passDays() {
        int[] bad = {0, 366, -1, MIN, MAX};
        for (int days : bad) refused("pass(" + days + ")", GuildFundEdges::busy, x -> x.pass(days), BAD_VALUE);
        oneAct("pass(1)", GuildFundEdges::busy, x -> x.pass(1), 121);
        oneAct("pass(365)", GuildFundEdges::busy, x -> x.pass(365), 485);
    }

    private static void lastDay() {
        Setup late = GuildFundEdges::lastDays;
        due("the day", made(late).count(0), 99645);
        oneAct("day 99998", late, x -> x.pass(353), 99998);
        oneAct("day 99999", late, x -> x.pass(354), 99999);
        refused("day 100000", late, x -> x.pass(355), NOT_POSSIBLE);
        refused("day 100010", late, x -> x.pass(365), NOT_POSSIBLE);
        refused("a day more", x -> {
            late.on(x);
            x.pass(354);
        }, x -> x.pass(1), NOT_POSSIBLE);
    }

    // ---- promises 13 and 14

    private static void texts() {
        holds("Promise 13: character: any character", GuildFundEdges::anyCharacter);
        holds("Promise 13: Returns the length of the text then; FULL if it has 60 characters", GuildFundEdges::typedLengths);
        holds("Promise 14: Returns the length that it had", GuildFundEdges::clearedLengths);
    }

    private static void anyCharacter() {
        int[] signs = {0, 1, 31, 127, 128, 255, 256, 0xD800, 0xDFFF, 0xFFFE, 65535};
        GuildFund x = new GuildFund();
        for (int i = 0; i < signs.length; i++) due("type(" + signs[i] + ")", x.type((char) signs[i]), i + 1);
        due("the fault", x.readPayments(), -100);
        due("clearText()", x.clearText(), signs.length);
    }

    private static void typedLengths() {
        GuildFund x = made(GuildFundEdges::twentyInvoices);
        String text = times(14, "3=1,") + "19=1";
        for (int i = 0; i < 60; i++) due("type()", x.type(text.charAt(i)), i + 1);
        due("the 61st", x.type('9'), FULL);
        due("count(15)", x.count(15), 60);
        // The last sign stands, and the one that was refused does not.
        due("readPayments()", x.readPayments(), 0);
        due("invoice(19, 5)", x.invoice(19, 5), 1);
        x.clearText();
        due("behind clearText()", x.type('1'), 1);
        Setup full = y -> {
            twentyInvoices(y);
            typeAll(y, text);
        };
        refused("the 61st, a comma", full, y -> y.type(','), FULL);
        refused("the 61st, a digit", full, y -> y.type('0'), FULL);
    }

    private static void clearedLengths() {
        GuildFund x = made(GuildFundEdges::small);
        due("of the empty text", x.clearText(), 0);
        x.type('0');
        due("of one", x.clearText(), 1);
        due("count(15)", x.count(15), 0);
        due("of none again", x.clearText(), 0);
        for (int i = 0; i < 61; i++) x.type('7');
        due("of 60", x.clearText(), 60);
        due("the empty text", x.readPayments(), -100);
        due("nothing of the old text is left", read(x, "0=1"), 0);
        due("invoice(0, 5)", x.invoice(0, 5), 1);
    }

    // ---- promises 15 to 17

    private static void history() {
        holds("Promise 15: Returns the number of states that are left; NONE if the history is empty", GuildFundEdges::undoes);
        holds("Promise 16: Takes a snapshot of the state, in place of the one that was. Returns the day", GuildFundEdges::keeps);
        holds("Promise 17: Restores the state of the snapshot, which stays", GuildFundEdges::snapshotStays);
        holds("Promise 17: Returns the day then; NONE if there is no snapshot", GuildFundEdges::restores);
    }

    private static void undoes() {
        GuildFund x = new GuildFund();
        due("of an empty one", x.undo(), NONE);
        x.pass(5);
        due("the only one", x.undo(), 0);
        due("the day", x.count(0), 0);
        due("of an empty one", x.undo(), NONE);
        for (int i = 0; i < 4; i++) x.pass(1);
        for (int left = 3; left >= 0; left--) {
            due("undo()", x.undo(), left);
            due("count(14)", x.count(14), left);
            due("the day", x.count(0), left);
        }
        due("the fifth", x.undo(), NONE);
        refused("of an empty history", GuildFundEdges::nothing, GuildFund::undo, NONE);
    }

    private static void keeps() {
        GuildFund x = new GuildFund();
        due("keep()", x.keep(), 0);
        x.pass(365);
        due("keep()", x.keep(), 365);
        x.pass(1);
        due("restore()", x.restore(), 365);
        x.addMember(1);
        due("keep()", x.keep(), 365);
        for (int i = 0; i < 4; i++) x.undo();
        due("count(4)", x.count(4), 0);
        x.restore();
        due("the latest one", x.count(4), 1);
        GuildFund late = made(GuildFundEdges::lastDays);
        late.pass(354);
        due("keep() at the last day", late.keep(), 99999);
    }

    private static void snapshotStays() {
        GuildFund x = made(GuildFundEdges::busy);
        for (int i = 0; i < 5; i++) {
            due("restore()", x.restore(), 14);
            due("invoice(0, 4)", x.invoice(0, 4), AHEAD);
            due("invoice(3, 4)", x.invoice(3, 4), OPEN);
            x.pay(0, 100000);
            x.pass(200);
            x.giveUp(3);
        }
        for (int i = 0; i < 4; i++) x.undo();
        due("behind undos", x.restore(), 14);
    }

    private static void restores() {
        refused("restore() of none", GuildFundEdges::small, GuildFund::restore, NONE);
        refused("restore() of none", GuildFundEdges::nothing, GuildFund::restore, NONE);
        Setup firstDayKept = x -> {
            small(x);
            x.keep();
            x.pass(9);
        };
        oneAct("restore() of day 0", firstDayKept, GuildFund::restore, 0);
        oneAct("restore() of day 14", GuildFundEdges::busy, GuildFund::restore, 14);
        GuildFund x = made(firstDayKept);
        x.restore();
        due("the day", x.count(0), 0);
    }

    // ---- promises 18 to 30

    private static void whatIsTold() {
        holds("Promise 18: which: 0 to 2", GuildFundEdges::ratesTold);
        holds("Promise 19: which: 0 to 2 .. UNKNOWN", GuildFundEdges::numbersTold);
        holds("Promise 20: member: a member", GuildFundEdges::membersTold);
        holds("Promise 20: what: 0 .. 5", GuildFundEdges::memberWhats);
        holds("Promise 20: 3 for its invoices, 4 for those of these that are ahead", GuildFundEdges::memberInvoices);
        holds("Promise 21: client: 0 to 5", GuildFundEdges::clientsTold);
        holds("Promise 21: what: 0 .. 3", GuildFundEdges::clientWhats);
        holds("Promise 21: 3 for invoices to it that are open or ahead", GuildFundEdges::clientInvoices);
        holds("Promise 22: client: 0 to 5", GuildFundEdges::risksTold);
        holds("Promise 23: client: 0 to 5", GuildFundEdges::latenessesTold);
        holds("Promise 24: invoice: an invoice", GuildFundEdges::invoicesTold);
        holds("Promise 24: what: 0 .. 10", GuildFundEdges::invoiceWhats);
        holds("Promise 24: 8 for the offer for it (whatever its state)", GuildFundEdges::offersOfAllStates);
        holds("Promise 25: days: 0 to 1000", GuildFundEdges::rateInDays);
        holds("Promise 25: if its client stays as it is", GuildFundEdges::rateInOfAllStates);
        holds("Promise 26: invoice: an invoice", GuildFundEdges::worthsTold);
        holds("Promise 27: rank: a rank, from 0; BAD_VALUE if rank is negative; NONE if there are not so many",
            GuildFundEdges::ranks);
        holds("Promise 27: the invoices that can be paid ahead", GuildFundEdges::rankedIfPayable);
        holds("Promise 27: the one with the greatest worth first", GuildFundEdges::greatestWorthFirst);
        holds("Promise 27: of several the lowest one", GuildFundEdges::lowestOfSeveral);
        holds("Promise 28: invoice: an invoice", GuildFundEdges::worthlessOfInvoicesOnly);
        holds("Promise 28: the first day from now on at which the offer for an invoice is 0", GuildFundEdges::firstWorthless);
        holds("Promise 28: in how many days that is, up to 1000; NONE if it is later, or never", GuildFundEdges::worthlessLater);
        holds("Promise 29: a NaN if there are no dues", GuildFundEdges::exposureWithoutDues);
        holds("Promise 29: all advances of invoices that are ahead, divided by all dues", GuildFundEdges::exposures);
        holds("Promise 30: what: 0 .. 15", GuildFundEdges::countWhats);
        holds("Promise 30: 6 to 9 for those in the states 0 to 3", GuildFundEdges::countStates);
        holds("Promise 30: all advances so far, all that clients have paid so far, all that was paid to members behind "
            + "advances so far, all losses shared so far", GuildFundEdges::countsSoFar);
    }

    private static void ratesTold() {
        GuildFund x = new GuildFund();
        x.setRate(0, bits(0.7f));
        x.setRate(1, bits(0.01f));
        x.setRate(2, bits(0.3f));
        due("rate(-1)", x.rate(-1), Float.NaN);
        due("rate(0)", x.rate(0), 0.7f);
        due("rate(1)", x.rate(1), 0.01f);
        due("rate(2)", x.rate(2), 0.3f);
        due("rate(3)", x.rate(3), Float.NaN);
    }

    private static void numbersTold() {
        GuildFund x = new GuildFund();
        for (int i = 0; i < 3; i++) x.setNumber(i, 41 + i);
        for (int i = 0; i < 3; i++) due("number(" + i + ")", x.number(i), 41 + i);
        int[] bad = {-1, 3, MIN, MAX};
        for (int which : bad) refused("number(" + which + ")", GuildFundEdges::busy, y -> y.number(which), UNKNOWN);
    }

    private static void membersTold() {
        GuildFund x = made(GuildFundEdges::busy);
        due("member(0, 0)", x.member(0, 0), 3);
        due("member(2, 0)", x.member(2, 0), 1);
        int[] bad = {-1, 3, 8, MIN, MAX};
        for (int member : bad) {
            for (int what = 0; what <= 5; what++) {
                int asked = what;
                refused("member(" + member + ", " + what + ")", GuildFundEdges::busy, y -> y.member(member, asked), UNKNOWN);
            }
        }
        due("member(7, 0) of eight", made(GuildFundEdges::eightMembers).member(7, 0), 8);
        refused("member(8, 0) of eight", GuildFundEdges::eightMembers, y -> y.member(8, 0), UNKNOWN);
    }

    private static void memberWhats() {
        GuildFund x = made(GuildFundEdges::busy);
        x.giveUp(0);
        // Of the loss of 41500 the shares are 20750, 13833.33 and 6916.67: the cent goes to member 0.
        int[][] want = {
            {3, 500000, BILLION + 41500 - 20751, 1, 0, BILLION + 20751},
            {2, 200000, BILLION + 16600 - 13833, 2, 1, BILLION + 13833},
            {1, 0, BILLION + 7000 - 6916, 2, 0, BILLION + 6916},
        };
        for (int i = 0; i < 3; i++) {
            for (int what = 0; what <= 5; what++) due("member(" + i + ", " + what + ")", x.member(i, what), want[i][what]);
        }
        int[] bad = {-1, 6, MIN, MAX};
        for (int what : bad) refused("member(0, " + what + ")", GuildFundEdges::busy, y -> y.member(0, what), BAD_VALUE);
    }

    private static void memberInvoices() {
        GuildFund x = made(GuildFundEdges::small);
        x.addMember(2);
        due("without invoices", x.member(1, 3), 0);
        due("two open ones", x.member(0, 3), 2);
        due("none ahead", x.member(0, 4), 0);
        x.payAhead(0);
        x.payAhead(1);
        due("two ahead", x.member(0, 4), 2);
        due("none of another", x.member(1, 4), 0);
        x.pay(0, 5000);
        x.pass(120);
        x.giveUp(1);
        due("none ahead", x.member(0, 4), 0);
        due("settled and lost ones are its invoices", x.member(0, 3), 2);
        due("twenty", made(GuildFundEdges::twentyInvoices).member(0, 3), 20);
    }

    private static void clientsTold() {
        GuildFund x = made(GuildFundEdges::busy);
        for (int i = 0; i < 6; i++) due("client(" + i + ", 0)", x.client(i, 0), i == 3 ? 1 : 0);
        int[] bad = {-1, 6, MIN, MAX};
        for (int client : bad) {
            for (int what = 0; what <= 3; what++) {
                int asked = what;
                refused("client(" + client + ", " + what + ")", GuildFundEdges::busy, y -> y.client(client, asked), UNKNOWN);
            }
        }
    }

    private static void clientWhats() {
        GuildFund x = made(GuildFundEdges::busy);
        int[][] want = {{0, 0, 0, 0}, {0, 0, 0, 0}, {0, 0, 0, 2}, {1, 0, 14, 0}, {0, 1, 0, 0}, {0, 0, 0, 1}};
        for (int i = 0; i < 6; i++) {
            for (int what = 0; what <= 3; what++) due("client(" + i + ", " + what + ")", x.client(i, what), want[i][what]);
        }
        int[] bad = {-1, 4, MIN, MAX};
        for (int what : bad) refused("client(0, " + what + ")", GuildFundEdges::busy, y -> y.client(0, what), BAD_VALUE);
    }

    private static void clientInvoices() {
        GuildFund x = made(GuildFundEdges::small);
        due("open", x.client(0, 3), 1);
        x.payAhead(0);
        due("ahead", x.client(0, 3), 1);
        x.pay(0, 4999);
        due("a cent is left", x.client(0, 3), 1);
        x.pay(0, 1);
        due("settled", x.client(0, 3), 0);
        x.pass(120);
        due("old", x.client(1, 3), 1);
        x.giveUp(1);
        due("lost", x.client(1, 3), 0);
    }

    private static void risksTold() {
        GuildFund x = made(GuildFundEdges::busy);
        float[] want = {0.5f, 0.5f, 0.5f, 1.0f / 3.0f, 2.0f / 3.0f, 0.5f};
        for (int i = 0; i < 6; i++) due("risk(" + i + ")", x.risk(i), want[i]);
        due("risk(-1)", x.risk(-1), Float.NaN);
        due("risk(6)", x.risk(6), Float.NaN);
    }

    private static void latenessesTold() {
        GuildFund x = made(GuildFundEdges::busy);
        for (int i = 0; i < 6; i++) due("lateness(" + i + ")", x.lateness(i), i == 3 ? 14.0f : 0.0f);
        due("lateness(-1)", x.lateness(-1), Float.NaN);
        due("lateness(6)", x.lateness(6), Float.NaN);
        x.pay(4, 8000);
        due("lateness(5)", x.lateness(5), 20.0f);
    }

    private static void invoicesTold() {
        GuildFund x = made(GuildFundEdges::busy);
        due("invoice(0, 2)", x.invoice(0, 2), 100000);
        due("invoice(4, 2)", x.invoice(4, 2), 8000);
        int[] bad = {-1, 5, 20, MIN, MAX};
        for (int invoice : bad) {
            for (int what = 0; what <= 10; what++) {
                int asked = what;
                refused("invoice(" + invoice + ", " + what + ")", GuildFundEdges::busy, y -> y.invoice(invoice, asked), UNKNOWN);
            }
        }
        due("invoice(19, 2) of twenty", made(GuildFundEdges::twentyInvoices).invoice(19, 2), 1019);
        refused("invoice(20, 2) of twenty", GuildFundEdges::twentyInvoices, y -> y.invoice(20, 2), UNKNOWN);
    }

    private static void invoiceWhats() {
        GuildFund x = made(GuildFundEdges::busy);
        x.pay(1, 55);
        int[][] want = {
            {0, 2, 100000, 0, AHEAD, 0, 41500, 100120, 15000, 0, 1},
            {1, 2, 40001, 10, AHEAD, 55, 16600, 100110, 7000, 0, 0},
            {2, 3, 7000, 0, SETTLED, 7000, 0, 100120, 1400, 0, 0},
            {2, 4, 9000, 0, LOST, 0, 0, 100120, 900, 0, 0},
            {1, 5, 8000, 100, OPEN, 0, 0, 100020, 3199, 1, 0},
        };
        for (int i = 0; i < 5; i++) {
            for (int what = 0; what <= 10; what++) due("invoice(" + i + ", " + what + ")", x.invoice(i, what), want[i][what]);
        }
        int[] bad = {-1, 11, MIN, MAX};
        for (int what : bad) refused("invoice(0, " + what + ")", GuildFundEdges::busy, y -> y.invoice(0, what), BAD_VALUE);
    }

    private static void offersOfAllStates() {
        GuildFund x = made(GuildFundEdges::small);
        x.payAhead(0);
        due("ahead", x.invoice(0, 8), 2250);
        x.pay(0, 5000);
        // The risk is a third then.
        due("settled", x.invoice(0, 8), (int) (5000.0f * (0.9f * (1.0f - 1.0f / 3.0f))));
        x.pay(1, 1);
        due("open, paid in part", x.invoice(1, 8), 2250);
        x.pass(120);
        x.giveUp(1);
        due("lost", x.invoice(1, 8), (int) (5000.0f * ((0.9f - 0.005f * 120.0f) * (1.0f - 2.0f / 3.0f))));
        x.pass(60);
        due("0", x.invoice(0, 8), 0);
    }

    private static void rateInDays() {
        GuildFund x = new GuildFund();
        x.addMember(1);
        x.setRate(1, bits(0.0005f));
        x.addInvoice(0, 0, 100, 3);
        due("rateIn(0, 0)", x.rateIn(0, 0), 0.45f);
        due("rateIn(0, 3)", x.rateIn(0, 3), 0.45f);
        due("rateIn(0, 4)", x.rateIn(0, 4), (0.9f - 0.0005f) * 0.5f);
        due("rateIn(0, 999)", x.rateIn(0, 999), (0.9f - 0.0005f * 996.0f) * 0.5f);
        due("rateIn(0, 1000)", x.rateIn(0, 1000), (0.9f - 0.0005f * 997.0f) * 0.5f);
        due("rateIn(0, 1001)", x.rateIn(0, 1001), Float.NaN);
        due("rateIn(0, -1)", x.rateIn(0, -1), Float.NaN);
        GuildFund late = new GuildFund();
        late.addMember(1);
        late.addInvoice(0, 0, 100, 0);
        late.setRate(1, bits(0.000001f));
        lastDays(late);
        late.pass(354);
        due("rateIn(0, 1000) at the last day", late.rateIn(0, 1000), (0.9f - 0.000001f * 100999.0f) * 0.5f);
    }

    private static void rateInOfAllStates() {
        GuildFund x = made(GuildFundEdges::busy);
        // A time to come is not lived through: invoice 0 could be given up, and its client would be another.
        due("ahead", x.rateIn(0, 10), (0.9f - 0.005f * 130.0f) * 0.5f);
        due("settled", x.rateIn(2, 0), (0.9f - 0.005f * 120.0f) * (1.0f - 1.0f / 3.0f));
        due("lost", x.rateIn(3, 1), (0.9f - 0.005f * 121.0f) * (1.0f - 2.0f / 3.0f));
        due("the day stays", x.count(0), 120);
        x.giveUp(0);
        due("as the client is then", x.rateIn(0, 10), (0.9f - 0.005f * 130.0f) * (1.0f - 2.0f / 3.0f));
    }

    private static void worthsTold() {
        GuildFund x = made(GuildFundEdges::busy);
        due("worth(-1)", x.worth(-1), Float.NaN);
        due("worth(0)", x.worth(0), 85000.0f * 0.5f - 15000.0f * 0.5f);
        due("worth(4)", x.worth(4), 4801.0f * 0.5f - 3199.0f * 0.5f);
        due("worth(5)", x.worth(5), Float.NaN);
        float risk = 1.0f / 3.0f;
        due("a settled one", x.worth(2), 5600.0f * (1.0f - risk) - 1400.0f * risk);
        float riskOfLost = 2.0f / 3.0f;
        due("a lost one", x.worth(3), 8100.0f * (1.0f - riskOfLost) - 900.0f * riskOfLost);
        GuildFund twenty = made(GuildFundEdges::twentyInvoices);
        due("worth(19)", twenty.worth(19), 561.0f * 0.5f - 458.0f * 0.5f);
        due("worth(20)", twenty.worth(20), Float.NaN);
    }

    /** Twenty invoices that can be paid ahead, the amounts falling. */
    private static void twentyPayable(GuildFund x) {
        x.addMember(1);
        x.payDues(0, 1000000);
        x.setNumber(0, 0);
        for (int i = 0; i < 20; i++) x.addInvoice(0, 0, 4000 - 100 * i, 0);
    }

    private static void ranks() {
        GuildFund x = made(GuildFundEdges::twentyPayable);
        for (int i = 0; i < 20; i++) due("best(" + i + ")", x.best(i), i);
        int[] negative = {-1, MIN};
        for (int rank : negative) {
            refused("best(" + rank + ")", GuildFundEdges::twentyPayable, y -> y.best(rank), BAD_VALUE);
            refused("best(" + rank + ") of none", GuildFundEdges::nothing, y -> y.best(rank), BAD_VALUE);
        }
        int[] tooMany = {20, 21, MAX};
        for (int rank : tooMany) refused("best(" + rank + ")", GuildFundEdges::twentyPayable, y -> y.best(rank), NONE);
        refused("best(0) of none", GuildFundEdges::nothing, y -> y.best(0), NONE);
        due("best(0) of one", made(GuildFundEdges::busy).best(0), 4);
        refused("best(1) of one", GuildFundEdges::busy, y -> y.best(1), NONE);
        refused("best(0) of open ones that can't be paid ahead", GuildFundEdges::twentyInvoices, y -> y.best(0), NONE);
    }

    private static void rankedIfPayable() {
        GuildFund x = made(GuildFundEdges::small);
        x.addInvoice(0, 2, 1000000, 0);
        x.addInvoice(0, 3, 100000, 1);
        x.addInvoice(0, 4, 4000, 0);
        // Invoice 2 is too dear for the balance, and invoice 3 is not due yet.
        int[] want = {0, 1, 4, NONE};
        for (int rank = 0; rank < want.length; rank++) due("best(" + rank + ")", x.best(rank), want[rank]);
        x.payAhead(0);
        x.pay(4, 1);
        due("best(0)", x.best(0), 1);
        due("best(1)", x.best(1), NONE);
        x.pass(1);
        due("best(0)", x.best(0), 3);
        due("best(1)", x.best(1), 1);
        due("best(2)", x.best(2), NONE);
    }

    private static void greatestWorthFirst() {
        GuildFund x = made(GuildFundEdges::small);
        x.addInvoice(0, 2, 7000, 0);
        x.addInvoice(0, 3, 100, 0);
        x.addInvoice(0, 4, 9000, 0);
        int[] want = {4, 2, 0, 1, 3, NONE};
        for (int rank = 0; rank < want.length; rank++) due("best(" + rank + ")", x.best(rank), want[rank]);
        // Not the greatest amount: client 5 has settled ten, and its risk of a twelfth makes 4000 worth 366.
        GuildFund y = made(GuildFundEdges::small);
        for (int i = 2; i < 12; i++) {
            y.addInvoice(0, 5, 100, 0);
            y.pay(i, 100);
        }
        y.addInvoice(0, 5, 4000, 0);
        due("of a small risk", y.best(0), 12);
        due("of a half", y.best(1), 0);
        // Client 4 has lost one, and its risk of two thirds makes 6000 worth 200.
        GuildFund z = made(GuildFundEdges::small);
        z.setNumber(2, 1);
        z.addInvoice(0, 4, 100, 0);
        z.pass(1);
        z.giveUp(2);
        z.addInvoice(0, 4, 6000, 1);
        due("of a half", z.best(0), 0);
        due("of a half", z.best(1), 1);
        due("of a great risk", z.best(2), 3);
        // Nor the greatest offer: that for invoice 3 is 2700, and those for the late ones are about 1000.
        GuildFund late = made(GuildFundEdges::small);
        late.addInvoice(0, 2, 5100, 0);
        late.addInvoice(0, 3, 6000, 100);
        late.pass(100);
        int[] order = {2, 0, 1, 3, NONE};
        for (int rank = 0; rank < order.length; rank++) due("best(" + rank + ")", late.best(rank), order[rank]);
    }

    private static void lowestOfSeveral() {
        GuildFund x = new GuildFund();
        x.addMember(1);
        x.payDues(0, 1000000);
        x.setNumber(0, 0);
        int[] amounts = {5000, 7000, 5000, 7000, 5000, 7000};
        for (int i = 0; i < amounts.length; i++) x.addInvoice(0, i, amounts[i], 0);
        int[] want = {1, 3, 5, 0, 2, 4, NONE};
        for (int rank = 0; rank < want.length; rank++) due("best(" + rank + ")", x.best(rank), want[rank]);
    }

    private static void worthlessOfInvoicesOnly() {
        int[] bad = {-1, 5, 20, MIN, MAX};
        for (int invoice : bad) refused("worthlessIn(" + invoice + ")", GuildFundEdges::busy, x -> x.worthlessIn(invoice), UNKNOWN);
        GuildFund x = made(GuildFundEdges::busy);
        due("worthlessIn(0)", x.worthlessIn(0), 60);
        due("worthlessIn(4)", x.worthlessIn(4), 160);
        GuildFund twenty = made(GuildFundEdges::twentyInvoices);
        due("worthlessIn(19) of twenty", twenty.worthlessIn(19), 199);
        due("worthlessIn(20) of twenty", twenty.worthlessIn(20), UNKNOWN);
    }

    private static void firstWorthless() {
        GuildFund x = made(GuildFundEdges::small);
        due("worthlessIn(0)", x.worthlessIn(0), 180);
        x.pass(179);
        due("the offer", x.invoice(0, 8) > 0 ? 1 : 0, 1);
        due("a day before", x.worthlessIn(0), 1);
        x.pass(1);
        due("the offer", x.invoice(0, 8), 0);
        due("on that day", x.worthlessIn(0), 0);
        x.pass(1);
        due("behind it", x.worthlessIn(0), 0);
        // The offer is cut: of 100 it is 0 although the rate is not.
        GuildFund y = made(GuildFundEdges::small);
        y.addInvoice(0, 0, 100, 0);
        due("of a small amount", y.worthlessIn(2), 176);
        due("its rate then", y.rateIn(2, 176) > 0.0f ? 1 : 0, 1);
        y.pass(175);
        due("the offer a day before", y.invoice(2, 8), 1);
        y.pass(1);
        due("the offer then", y.invoice(2, 8), 0);
        // If its client stays as it is: with a lower risk a day more is worth a cent.
        y.pay(0, 5000);
        due("with a risk of a third", y.worthlessIn(2), 1);
        // Of an invoice in any state, as its offer is told in any state.
        GuildFund z = made(GuildFundEdges::busy);
        due("settled", z.worthlessIn(2), 60);
        due("lost", z.worthlessIn(3), 60);
    }

    private static void worthlessLater() {
        GuildFund x = new GuildFund();
        x.addMember(1);
        x.addInvoice(0, 0, 5000, 820);
        x.addInvoice(0, 0, 5000, 821);
        due("in 1000 days", x.worthlessIn(0), 1000);
        refused("in 1001 days", y -> {
            busy(y);
            y.addInvoice(0, 0, 5000, 120 + 821);
        }, y -> y.worthlessIn(5), NONE);
        due("in 1001 days", x.worthlessIn(1), NONE);
        x.pass(1);
        due("in 999 days", x.worthlessIn(0), 999);
        due("in 1000 days", x.worthlessIn(1), 1000);
        x.setRate(1, 0);
        due("never", x.worthlessIn(0), NONE);
        x.undo();
        x.addInvoice(0, 0, 5000, 9999);
        due("in 10178 days", x.worthlessIn(2), NONE);
    }

    private static void exposureWithoutDues() {
        GuildFund x = new GuildFund();
        due("without members", x.exposure(), Float.NaN);
        x.addMember(1);
        x.addInvoice(0, 0, 100, 0);
        due("without dues", x.exposure(), Float.NaN);
        x.payDues(0, 1);
        due("dues of a cent", x.exposure(), 0.0f);
        x.undo();
        due("behind an undo", x.exposure(), Float.NaN);
    }

    private static void exposures() {
        GuildFund x = made(GuildFundEdges::busy);
        due("two ahead", x.exposure(), (41500.0f + 16600.0f) / 700000.0f);
        x.pay(0, 99999);
        due("what was paid does not count", x.exposure(), 58100.0f / 700000.0f);
        x.pay(0, 1);
        due("a settled one does not count", x.exposure(), 16600.0f / 700000.0f);
        x.pass(10);
        x.giveUp(1);
        due("a lost one does not count", x.exposure(), 0.0f);
        GuildFund y = made(GuildFundEdges::small);
        y.addMember(1);
        y.payAhead(0);
        y.payDues(1, 7);
        due("of all members' dues", y.exposure(), 2250.0f / 100007.0f);
    }

    private static void countWhats() {
        GuildFund x = made(GuildFundEdges::busy);
        int[] want = {
            120, BILLION + 700000 - 41500 - 16600, 700000, 140000, 3, 5, 1, 2, 1, 1, 58100, 7000, 0, 0, 4, 6,
        };
        for (int what = 0; what <= 15; what++) due("count(" + what + ")", x.count(what), want[what]);
        int[] bad = {-1, 16, MIN, MAX};
        for (int what : bad) refused("count(" + what + ")", GuildFundEdges::busy, y -> y.count(what), BAD_VALUE);
    }

    private static void countStates() {
        GuildFund x = made(GuildFundEdges::twentyInvoices);
        x.payDues(0, 1000000);
        x.pass(140);
        for (int i = 0; i < 9; i++) x.payAhead(i);
        for (int i = 0; i < 3; i++) x.pay(i, 1000 + i);
        for (int i = 3; i < 5; i++) x.giveUp(i);
        int[] want = {20, 11, 4, 3, 2};
        for (int i = 0; i < 5; i++) due("count(" + (5 + i) + ")", x.count(5 + i), want[i]);
    }

    private static void countsSoFar() {
        GuildFund x = made(GuildFundEdges::small);
        x.addInvoice(0, 2, 5000, 0);
        for (int i = 0; i < 3; i++) x.payAhead(i);
        due("all advances", x.count(10), 6750);
        x.pay(0, 5000);
        x.pay(1, 1250);
        due("all advances, of settled ones too", x.count(10), 6750);
        due("all that clients have paid", x.count(11), 6250);
        due("all behind advances", x.count(12), 2250);
        x.pass(120);
        due("giveUp(1)", x.giveUp(1), 1000);
        due("giveUp(2)", x.giveUp(2), 2250);
        due("all losses", x.count(13), 3250);
        due("all advances, of lost ones too", x.count(10), 6750);
        due("all that clients have paid, for lost ones too", x.count(11), 6250);
        x.undo();
        due("behind an undo", x.count(13), 1000);
        // The accounts add up: what came in, less what went out, is the balance.
        int in = x.count(2) + x.count(11) + x.count(13);
        int out = x.count(10) + x.count(12);
        due("the balance", balance(x), in - out);
    }
}
