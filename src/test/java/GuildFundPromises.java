/** One test or more for each promise of the document: ordinary inputs, edges and wrong inputs. */
public final class GuildFundPromises {
    private static final int BILLION = 1000000000;
    private static final int MAX = Integer.MAX_VALUE;
    private static final int MIN = Integer.MIN_VALUE;

    private static int promise = 0;
    private static int wrong = 0;

    private static void due(String call, int got, int want) {
        if (got == want) return;
        wrong++;
        System.out.println("promise " + promise + ": " + call + " answered " + got + ", due is " + want);
    }

    /** Floats are compared by their bits, so that 0.0f and -0.0f differ; a NaN is a NaN. */
    private static void due(String call, float got, float want) {
        if (Float.floatToIntBits(got) == Float.floatToIntBits(want)) return;
        wrong++;
        System.out.println("promise " + promise + ": " + call + " answered " + got + ", due is " + want);
    }

    private static int bits(float value) {
        return Float.floatToRawIntBits(value);
    }

    private static void typeAll(GuildFund x, String text) {
        x.clearText();
        for (int i = 0; i < text.length(); i++) x.type(text.charAt(i));
    }

    private static int read(GuildFund x, String text) {
        typeAll(x, text);
        return x.readPayments();
    }

    private static int balance(GuildFund x) {
        return x.count(1) - BILLION;
    }

    private static int purse(GuildFund x, int member) {
        return x.member(member, 2) - BILLION;
    }

    private static int borne(GuildFund x, int member) {
        return x.member(member, 5) - BILLION;
    }

    /** A fund of three members with weights 3, 2, 1; members 0 and 1 have paid 500000 and 200000. */
    private static GuildFund guild() {
        GuildFund x = new GuildFund();
        x.addMember(3);
        x.addMember(2);
        x.addMember(1);
        x.payDues(0, 500000);
        x.payDues(1, 200000);
        return x;
    }

    /** The guild with invoice 0 of member 0 to client 2 over 100000, paid ahead with 41500 at day 14. */
    private static GuildFund guildAhead() {
        GuildFund x = guild();
        x.addInvoice(0, 2, 100000, 0);
        x.pass(14);
        x.payAhead(0);
        return x;
    }

    public static void main(String[] args) {
        Runnable[] tests = {
            GuildFundPromises::newObject, GuildFundPromises::setRate, GuildFundPromises::setNumber,
            GuildFundPromises::addMember, GuildFundPromises::payDues, GuildFundPromises::addInvoice,
            GuildFundPromises::payAhead, GuildFundPromises::pay, GuildFundPromises::giveUp,
            GuildFundPromises::readPayments, GuildFundPromises::refusal, GuildFundPromises::pass,
            GuildFundPromises::type, GuildFundPromises::clearText, GuildFundPromises::undo,
            GuildFundPromises::keep, GuildFundPromises::restore, GuildFundPromises::rate,
            GuildFundPromises::number, GuildFundPromises::member, GuildFundPromises::client,
            GuildFundPromises::risk, GuildFundPromises::lateness, GuildFundPromises::invoice,
            GuildFundPromises::rateIn, GuildFundPromises::worth, GuildFundPromises::best,
            GuildFundPromises::worthlessIn, GuildFundPromises::exposure, GuildFundPromises::count,
        };
        for (Runnable test : tests) {
            promise++;
            test.run();
        }
        System.out.println(wrong == 0 ? "all promises hold" : wrong + " answers are not as due");
        if (wrong != 0) System.exit(1);
    }

    private static void newObject() {
        GuildFund x = new GuildFund();
        due("UNKNOWN", GuildFund.UNKNOWN, -1);
        due("BAD_VALUE", GuildFund.BAD_VALUE, -2);
        due("FULL", GuildFund.FULL, -3);
        due("NOT_POSSIBLE", GuildFund.NOT_POSSIBLE, -4);
        due("NONE", GuildFund.NONE, -5);
        for (int what = 0; what <= 15; what++) due("count(" + what + ")", x.count(what), what == 1 ? BILLION : 0);
        for (int what = 0; what <= 3; what++) due("client(5, " + what + ")", x.client(5, what), 0);
        due("rate(0)", x.rate(0), 0.9f);
        due("rate(1)", x.rate(1), 0.005f);
        due("rate(2)", x.rate(2), 0.1f);
        due("number(0)", x.number(0), 14);
        due("number(1)", x.number(1), 20);
        due("number(2)", x.number(2), 120);
        due("member(0, 0)", x.member(0, 0), -1);
        due("invoice(0, 0)", x.invoice(0, 0), -1);
        due("undo()", x.undo(), -5);
        due("restore()", x.restore(), -5);
        due("refusal(0)", x.refusal(0), -5);
        due("best(0)", x.best(0), -5);
        GuildFund other = new GuildFund();
        x.addMember(1);
        due("another fund's count(4)", other.count(4), 0);
    }

    private static void setRate() {
        float[] low = {0.1f, 0.0f, 0.0f};
        float[] high = {1.0f, 0.05f, 0.5f};
        GuildFund x = new GuildFund();
        for (int which = 0; which < 3; which++) {
            due("the lowest", x.setRate(which, bits(low[which])), 1);
            due("rate()", x.rate(which), low[which]);
            due("the lowest again", x.setRate(which, bits(low[which])), -5);
            due("the highest", x.setRate(which, bits(high[which])), 1);
            due("rate()", x.rate(which), high[which]);
            due("above", x.setRate(which, bits(Math.nextUp(high[which]))), -2);
            due("below", x.setRate(which, bits(Math.nextDown(low[which]))), -2);
            due("-0.0f", x.setRate(which, bits(-0.0f)), -2);
            due("0.0f", x.setRate(which, 0), which == 0 ? -2 : 1);
            due("-1.0f", x.setRate(which, bits(-1.0f)), -2);
            due("NaN", x.setRate(which, bits(Float.NaN)), -2);
            due("another NaN", x.setRate(which, -1), -2);
            due("a signalling NaN", x.setRate(which, 0x7F800001), -2);
            due("infinity", x.setRate(which, bits(Float.POSITIVE_INFINITY)), -2);
            due("-infinity", x.setRate(which, bits(Float.NEGATIVE_INFINITY)), -2);
            due("largest bits", x.setRate(which, MAX), -2);
            due("smallest bits", x.setRate(which, MIN), -2);
        }
        due("setRate(-1, NaN)", x.setRate(-1, -1), -1);
        due("setRate(3, ..)", x.setRate(3, bits(0.2f)), -1);
        due("setRate(MIN, ..)", x.setRate(MIN, bits(0.2f)), -1);
        setRateEveryShape();
        GuildFund y = new GuildFund();
        due("as it is at first", y.setRate(0, bits(0.9f)), -5);
        due("as it is at first", y.setRate(1, bits(0.005f)), -5);
        due("as it is at first", y.setRate(2, bits(0.1f)), -5);
        due("count(14)", y.count(14), 0);
        y.setRate(2, bits(0.25f));
        due("count(14)", y.count(14), 1);
        due("undo()", y.undo(), 0);
        due("rate(2)", y.rate(2), 0.1f);
    }

    /** Floats of every exponent in the range, those without a hidden one too, come back as they were. */
    private static void setRateEveryShape() {
        int[] fractions = {1, 0x2AAAAA, 0x555555, 0x7FFFFF};
        for (int fraction : fractions) {
            GuildFund x = new GuildFund();
            for (int exponent = 0; exponent <= 125; exponent++) {
                int shape = exponent << 23 | fraction;
                x.setRate(2, shape);
                due("bits of rate(2)", bits(x.rate(2)), shape);
            }
        }
    }

    private static void setNumber() {
        GuildFund x = new GuildFund();
        due("setNumber(0, 0)", x.setNumber(0, 0), 14);
        due("setNumber(0, 90)", x.setNumber(0, 90), 0);
        due("setNumber(0, 90)", x.setNumber(0, 90), -5);
        due("setNumber(0, 91)", x.setNumber(0, 91), -2);
        due("setNumber(0, -1)", x.setNumber(0, -1), -2);
        due("setNumber(1, 0)", x.setNumber(1, 0), 20);
        due("setNumber(1, 90)", x.setNumber(1, 90), 0);
        due("setNumber(1, 91)", x.setNumber(1, 91), -2);
        due("setNumber(1, -1)", x.setNumber(1, -1), -2);
        due("setNumber(2, 1)", x.setNumber(2, 1), 120);
        due("setNumber(2, 365)", x.setNumber(2, 365), 1);
        due("setNumber(2, 366)", x.setNumber(2, 366), -2);
        due("setNumber(2, 0)", x.setNumber(2, 0), -2);
        due("setNumber(2, MIN)", x.setNumber(2, MIN), -2);
        due("setNumber(3, MAX)", x.setNumber(3, MAX), -1);
        due("setNumber(-1, 5)", x.setNumber(-1, 5), -1);
        due("number(0)", x.number(0), 90);
        due("number(1)", x.number(1), 90);
        due("number(2)", x.number(2), 365);
        GuildFund y = new GuildFund();
        y.setNumber(0, 14);
        due("count(14)", y.count(14), 0);
        y.setNumber(0, 15);
        due("count(14)", y.count(14), 1);
        y.undo();
        due("number(0)", y.number(0), 14);
    }

    private static void addMember() {
        GuildFund x = new GuildFund();
        due("addMember(0)", x.addMember(0), -2);
        due("addMember(10)", x.addMember(10), -2);
        due("addMember(MIN)", x.addMember(MIN), -2);
        due("count(14)", x.count(14), 0);
        for (int i = 0; i < 8; i++) due("addMember()", x.addMember(i == 0 ? 9 : i), i);
        due("member(0, 0)", x.member(0, 0), 9);
        due("member(1, 0)", x.member(1, 0), 1);
        due("member(7, 0)", x.member(7, 0), 7);
        due("addMember(10) when full", x.addMember(10), -2);
        due("addMember(1) when full", x.addMember(1), -3);
        due("count(4)", x.count(4), 8);
        due("undo()", x.undo(), 3);
        due("member(7, 0)", x.member(7, 0), -1);
        due("addMember(5)", x.addMember(5), 7);
        due("member(7, 0)", x.member(7, 0), 5);
        GuildFund y = new GuildFund();
        y.addMember(1);
        y.payDues(0, 5);
        y.undo();
        y.undo();
        y.addMember(2);
        due("dues of a new member in an old place", y.member(0, 1), 0);
        due("its purse", y.member(0, 2), BILLION);
    }

    private static void payDues() {
        GuildFund x = new GuildFund();
        due("payDues(0, 0)", x.payDues(0, 0), -1);
        x.addMember(1);
        x.addMember(1);
        due("payDues(-1, 1)", x.payDues(-1, 1), -1);
        due("payDues(2, 0)", x.payDues(2, 0), -1);
        due("payDues(8, 1)", x.payDues(8, 1), -1);
        due("payDues(0, 0)", x.payDues(0, 0), -2);
        due("payDues(0, 1000001)", x.payDues(0, 1000001), -2);
        due("payDues(0, MAX)", x.payDues(0, MAX), -2);
        due("payDues(0, 1)", x.payDues(0, 1), 1);
        due("count(1)", balance(x), 1);
        x.undo();
        due("count(1)", balance(x), 0);
        for (int i = 1; i < 100; i++) x.payDues(0, 1000000);
        due("payDues(0, 999999)", x.payDues(0, 999999), 99999999);
        due("payDues(0, 2)", x.payDues(0, 2), -3);
        due("payDues(0, 1)", x.payDues(0, 1), 100000000);
        due("payDues(0, 1)", x.payDues(0, 1), -3);
        due("payDues(0, 0)", x.payDues(0, 0), -2);
        due("payDues(1, 7)", x.payDues(1, 7), 7);
        due("count(1)", balance(x), 100000007);
        due("count(2)", x.count(2), 100000007);
        due("purse", purse(x, 0), 0);
    }

    private static void addInvoice() {
        GuildFund x = new GuildFund();
        due("without members", x.addInvoice(0, 0, 100, 0), -1);
        x.addMember(1);
        due("member -1", x.addInvoice(-1, 0, 100, 0), -1);
        due("member 1", x.addInvoice(1, 0, 99, 0), -1);
        due("client -1", x.addInvoice(0, -1, 100, 0), -1);
        due("client 6", x.addInvoice(0, 6, 99, -1), -1);
        due("amount 99", x.addInvoice(0, 0, 99, 0), -2);
        due("amount 1000001", x.addInvoice(0, 0, 1000001, 0), -2);
        due("due -1", x.addInvoice(0, 0, 100, -1), -2);
        due("due 10000", x.addInvoice(0, 0, 100, 10000), -2);
        due("count(14)", x.count(14), 1);
        due("lowest", x.addInvoice(0, 0, 100, 0), 0);
        due("highest", x.addInvoice(0, 5, 1000000, 9999), 1);
        int[] want = {0, 5, 1000000, 9999, 0, 0, 0, 90001};
        for (int what = 0; what < want.length; what++) {
            due("invoice(1, " + what + ")", x.invoice(1, what), want[what]);
        }
        for (int i = 2; i < 20; i++) due("addInvoice()", x.addInvoice(0, i % 6, 1000 + i, i), i);
        due("the 21st", x.addInvoice(0, 0, 100, 0), -3);
        due("the 21st, wrong", x.addInvoice(0, 0, 99, 0), -2);
        due("count(5)", x.count(5), 20);
        due("count(6)", x.count(6), 20);
        due("invoice(20, 0)", x.invoice(20, 0), -1);
        due("undo()", x.undo(), 3);
        due("count(5)", x.count(5), 19);
    }

    private static void payAhead() {
        GuildFund x = guild();
        due("payAhead(0)", x.payAhead(0), -1);
        due("payAhead(-1)", x.payAhead(-1), -1);
        x.addInvoice(0, 2, 100000, 0);
        x.pass(13);
        due("a day before the wait", x.payAhead(0), -4);
        x.pass(1);
        due("at the wait", x.payAhead(0), 41500);
        due("again", x.payAhead(0), -4);
        due("state", x.invoice(0, 4), 1);
        due("advance", x.invoice(0, 6), 41500);
        due("purse", purse(x, 0), 41500);
        due("balance", balance(x), 658500);
        due("count(10)", x.count(10), 41500);
        x.undo();
        due("count(10)", x.count(10), 0);
        due("state", x.invoice(0, 4), 0);
        x.pay(0, 1);
        due("when a cent was paid", x.payAhead(0), -4);
        x.undo();
        x.pass(300);
        due("when the offer is 0", x.payAhead(0), -4);
        x.giveUp(0);
        due("when it is lost", x.payAhead(0), -4);
        payAheadByReserve();
    }

    private static void payAheadByReserve() {
        GuildFund x = new GuildFund();
        x.addMember(9);
        x.setNumber(0, 0);
        // The offer is 5000 * (0.9 * 0.5), and 20 of 100 of 2812 are 562.4, rounded down.
        x.addInvoice(0, 0, 5000, 0);
        x.payDues(0, 2811);
        due("reserve", x.count(3), 562);
        due("a cent too few", x.payAhead(0), -4);
        x.payDues(0, 1);
        due("reserve", x.count(3), 562);
        due("just enough", x.payAhead(0), 2250);
        due("balance", balance(x), 562);
        GuildFund y = new GuildFund();
        y.addMember(1);
        y.addInvoice(0, 0, 100, 5);
        y.payDues(0, 1000000);
        y.setNumber(0, 0);
        due("before it is due", y.payAhead(0), -4);
        y.pass(5);
        due("on the day at which it is due", y.payAhead(0), 45);
    }

    private static void pay() {
        GuildFund x = guildAhead();
        due("pay(1, 1)", x.pay(1, 1), -1);
        due("pay(-1, 0)", x.pay(-1, 0), -1);
        due("pay(0, 0)", x.pay(0, 0), -2);
        due("pay(0, 100001)", x.pay(0, 100001), -2);
        due("pay(0, MIN)", x.pay(0, MIN), -2);
        due("pay(0, 20000)", x.pay(0, 20000), 80000);
        due("to the balance", balance(x), 678500);
        due("not to the purse", purse(x, 0), 41500);
        due("pay(0, 80001)", x.pay(0, 80001), -2);
        due("pay(0, 80000)", x.pay(0, 80000), 0);
        due("state", x.invoice(0, 4), 2);
        due("purse, behind the fee", purse(x, 0), 90000);
        due("balance, behind the fee", balance(x), 710000);
        due("count(11)", x.count(11), 100000);
        due("count(12)", x.count(12), 48500);
        due("settled", x.client(2, 0), 1);
        due("days", x.client(2, 2), 14);
        due("pay(0, 0) when it is settled", x.pay(0, 0), -4);
        x.undo();
        due("settled", x.client(2, 0), 0);
        due("count(12)", x.count(12), 0);
        payWhenOpenOrLost();
        payWithoutRest();
    }

    private static void payWhenOpenOrLost() {
        GuildFund x = new GuildFund();
        x.addMember(1);
        x.addInvoice(0, 1, 200, 7);
        x.addInvoice(0, 1, 200, 0);
        x.pass(5);
        due("pay(0, 50)", x.pay(0, 50), 150);
        due("to the purse", purse(x, 0), 50);
        due("not to the balance", balance(x), 0);
        due("pay(0, 150)", x.pay(0, 150), 0);
        due("purse", purse(x, 0), 200);
        due("early is not late", x.client(1, 2), 0);
        due("settled", x.client(1, 0), 1);
        due("no fee", x.count(12), 0);
        x.pass(300);
        x.giveUp(1);
        due("pay(1, 0) when it is lost", x.pay(1, 0), -4);
    }

    private static void payWithoutRest() {
        GuildFund x = new GuildFund();
        x.addMember(1);
        x.payDues(0, 1000000);
        x.setNumber(0, 0);
        x.setRate(0, bits(1.0f));
        x.setRate(2, bits(0.5f));
        x.addInvoice(0, 0, 1001, 0);
        due("payAhead(0)", x.payAhead(0), 500);
        // 1001 - 500 - 500 is 1; with an advance of more than the half nothing is left.
        x.pay(0, 1001);
        due("count(12)", x.count(12), 1);
        x.addInvoice(0, 0, 1000, 0);
        due("payAhead(1)", x.payAhead(1), 666);
        x.pay(1, 1000);
        due("count(12)", x.count(12), 1);
        due("purse", purse(x, 0), 1167);
    }

    private static void giveUp() {
        GuildFund x = guildAhead();
        due("giveUp(1)", x.giveUp(1), -1);
        due("giveUp(-1)", x.giveUp(-1), -1);
        x.pass(105);
        due("a day before the patience", x.giveUp(0), -4);
        x.pass(1);
        x.pay(0, 1497);
        int before = balance(x);
        due("at the patience", x.giveUp(0), 40003);
        due("state", x.invoice(0, 4), 3);
        // 40003 * 3 / 6, 40003 * 2 / 6 and 40003 / 6, cut, are 40002 together.
        due("share of 0", borne(x, 0), 20002);
        due("share of 1", borne(x, 1), 13334);
        due("share of 2", borne(x, 2), 6667);
        due("purse of 0", purse(x, 0), 41500 - 20002);
        due("purse of 2", purse(x, 2), -6667);
        due("balance", balance(x) - before, 40003);
        due("count(13)", x.count(13), 40003);
        due("lost", x.client(2, 1), 1);
        due("again", x.giveUp(0), -4);
        x.undo();
        due("lost", x.client(2, 1), 0);
        due("share of 0", borne(x, 0), 0);
        giveUpWithoutLoss();
        giveUpManyCents();
        giveUpOneCent();
    }

    private static void giveUpOneCent() {
        GuildFund x = new GuildFund();
        x.addMember(1);
        x.payDues(0, 1000);
        x.setNumber(0, 0);
        x.addInvoice(0, 0, 100, 0);
        x.addInvoice(0, 1, 100, 0);
        due("payAhead(0)", x.payAhead(0), 45);
        x.pass(120);
        x.pay(0, 44);
        due("giveUp(0)", x.giveUp(0), 1);
        due("borne", borne(x, 0), 1);
        due("purse", purse(x, 0), 44);
        due("count(13)", x.count(13), 1);
        due("balance", balance(x), 1000);
        due("payAhead(1)", x.payAhead(1), 15);
        x.addMember(9);
        due("giveUp(1)", x.giveUp(1), 15);
        // 1.5 and 13.5 are cut, and the cent that is left over goes to member 0.
        due("borne", borne(x, 0), 3);
        due("a member that came later bears too", borne(x, 1), 13);
    }

    private static void giveUpWithoutLoss() {
        GuildFund x = guildAhead();
        x.addInvoice(1, 3, 5000, 0);
        x.pass(200);
        x.pay(0, 41500);
        due("open", x.giveUp(1), 0);
        due("lost", x.client(3, 1), 1);
        due("what the advance was is paid", x.giveUp(0), 0);
        due("count(13)", x.count(13), 0);
        due("count(9)", x.count(9), 2);
        x.addInvoice(1, 3, 5000, 0);
        x.pay(2, 5000);
        due("settled", x.giveUp(2), -4);
        GuildFund y = guildAhead();
        y.pass(200);
        y.pay(0, 41501);
        due("more than the advance is paid", y.giveUp(0), 0);
    }

    /** Eight members with the same weight: several cents are left over, for the first ones. */
    private static void giveUpManyCents() {
        GuildFund x = new GuildFund();
        for (int i = 0; i < 8; i++) x.addMember(7);
        x.payDues(7, 1000000);
        x.setNumber(0, 0);
        x.addInvoice(4, 0, 100, 0);
        x.addInvoice(4, 1, 1000000, 0);
        due("payAhead(0)", x.payAhead(0), 45);
        due("payAhead(1)", x.payAhead(1), 450000);
        x.pay(1, 3);
        x.pass(365);
        due("giveUp(0)", x.giveUp(0), 45);
        for (int i = 0; i < 8; i++) due("borne", borne(x, i), i < 5 ? 6 : 5);
        due("giveUp(1)", x.giveUp(1), 449997);
        for (int i = 0; i < 8; i++) due("borne", borne(x, i), 56249 + (i < 5 ? 1 + 6 : 5));
    }

    private static void readPayments() {
        GuildFund x = guildAhead();
        for (int i = 1; i < 12; i++) x.addInvoice(1, 3, 1000, 0);
        int before = balance(x);
        due("some", read(x, "0=100000,11=1000,1=999"), 2);
        due("the text stays", x.count(15), 22);
        due("balance", balance(x) - before, 100000 - 48500);
        due("purse", purse(x, 1), 1999);
        due("state", x.invoice(11, 4), 2);
        due("one act", x.undo(), 3);
        due("state", x.invoice(11, 4), 0);
        due("balance", balance(x), before);
        due("none settled", read(x, "2=1"), 0);
        due("twice the same", read(x, "2=998,2=1"), 1);
        due("settled in the middle", read(x, "3=1000,3=1"), -4);
        due("nothing of it is done", x.invoice(3, 5), 0);
        due("no such invoice", read(x, "3=1,12=1"), -4);
        due("nothing of it is done", x.invoice(3, 5), 0);
        due("too much", read(x, "3=999,3=2"), -4);
        due("seven digits", read(x, "3=9999999"), -4);
        due("purse", purse(x, 1), 1000);
        readFaults();
        GuildFund y = guildAhead();
        y.undo();
        y.undo();
        due("count(14)", y.count(14), 2);
        read(y, "9=1");
        read(y, "9");
        due("refused is no act", y.count(14), 2);
    }

    /** A fund with twelve open invoices of 1000. */
    private static GuildFund guildOfTwelve() {
        GuildFund x = guild();
        for (int i = 0; i < 12; i++) x.addInvoice(1, 3, 1000, 0);
        return x;
    }

    private static void readFaults() {
        String[] texts = {
            "", "1", "12", "1=", "1=5,", "1=5,2", "1=5,2=", "=5", ",", "01=5", "00=5", "0=0", "1=05",
            "123=5", "1==5", "1=5=", "1=5,,2=5", "1=12345678", "1=1234567", "1 =5", "1=5 ", "-1=5", "1=-5",
            "1=5,a", "1=/", "1=:", "/=1", ":=1", "a", "1=5;2=5", "1=50,02=5", "1=1234567,", "1,5", "12,", "0,",
        };
        int[] faults = {
            0, 1, 2, 2, 4, 5, 6, 0, 0, 1, 1, 2, 2,
            2, 2, 3, 4, 9, -1, 1, 3, 0, 2,
            4, 2, 2, 0, 0, 0, 3, 6, 10, 1, 2, 1,
        };
        for (int i = 0; i < texts.length; i++) {
            due("\"" + texts[i] + "\"", read(guildOfTwelve(), texts[i]), faults[i] < 0 ? -4 : -100 - faults[i]);
        }
        GuildFund x = guildOfTwelve();
        String full = "1=1,1=1,1=1,1=1,1=1,1=1,1=1,1=1,1=1,1=1,1=1,1=1,1=1,1=1,1=1,";
        due("60 characters, too early", read(x, full), -160);
        due("59 characters", read(x, full.substring(0, 59)), 0);
        due("60 characters", read(x, "10=1," + full.substring(0, 55)), 0);
        due("the last character", read(x, full.substring(0, 59) + "="), -159);
        typeAll(x, "1=");
        x.type((char) 0x661);
        due("a digit of another script", x.readPayments(), -102);
    }

    private static void refusal() {
        GuildFund x = guild();
        x.addInvoice(0, 0, 500, 0);
        x.addInvoice(0, 0, 500, 0);
        due("refusal(-1)", x.refusal(-1), -2);
        due("refusal(2)", x.refusal(2), -2);
        due("refusal(0)", x.refusal(0), -5);
        due("refusal(1)", x.refusal(1), -5);
        read(x, "0=");
        x.pay(7, 1);
        due("a fault and pay() are none", x.refusal(0), -5);
        read(x, "0=1,1=1,2=1");
        due("refusal(0)", x.refusal(0), 2);
        due("refusal(1)", x.refusal(1), -1);
        read(x, "0=1,0=500");
        due("refusal(0)", x.refusal(0), 1);
        due("refusal(1)", x.refusal(1), -2);
        read(x, "0=500,1=500,0=600");
        due("refusal(0)", x.refusal(0), 2);
        due("refusal(1)", x.refusal(1), -4);
        read(x, "7=1");
        due("refusal(0)", x.refusal(0), 0);
        due("refusal(1)", x.refusal(1), -1);
        read(x, "7");
        due("a fault leaves it", x.refusal(1), -1);
        due("success", read(x, "0=1"), 0);
        due("success leaves it", x.refusal(0), 0);
        x.keep();
        read(x, "1=1,1=1,9=1");
        x.undo();
        x.restore();
        due("undo() and restore() leave it", x.refusal(0), 2);
        due("refusal(MAX)", x.refusal(MAX), -2);
    }

    private static void pass() {
        GuildFund x = new GuildFund();
        due("pass(0)", x.pass(0), -2);
        due("pass(-1)", x.pass(-1), -2);
        due("pass(366)", x.pass(366), -2);
        due("pass(MAX)", x.pass(MAX), -2);
        due("pass(1)", x.pass(1), 1);
        due("count(14)", x.count(14), 1);
        for (int i = 0; i < 273; i++) x.pass(365);
        due("count(0)", x.count(0), 99646);
        due("pass(354)", x.pass(354), -4);
        due("pass(366)", x.pass(366), -2);
        due("pass(353)", x.pass(353), 99999);
        due("pass(1)", x.pass(1), -4);
        due("undo()", x.undo(), 3);
        due("count(0)", x.count(0), 99646);
    }

    private static void type() {
        GuildFund x = new GuildFund();
        due("a zero", x.type((char) 0), 1);
        due("the last character", x.type((char) 65535), 2);
        for (int i = 3; i <= 60; i++) due("type('1')", x.type('1'), i);
        due("the 61st", x.type('1'), -3);
        due("count(15)", x.count(15), 60);
        due("no act", x.count(14), 0);
        due("the fault", x.readPayments(), -100);
    }

    private static void clearText() {
        GuildFund x = new GuildFund();
        due("clearText()", x.clearText(), 0);
        typeAll(x, "1=5");
        due("clearText()", x.clearText(), 3);
        due("clearText()", x.clearText(), 0);
        due("count(15)", x.count(15), 0);
        due("type('2')", x.type('2'), 1);
        due("no act", x.count(14), 0);
        for (int i = 0; i < 70; i++) x.type('1');
        due("clearText()", x.clearText(), 60);
        due("type('2')", x.type('2'), 1);
    }

    private static void undo() {
        GuildFund x = new GuildFund();
        due("undo()", x.undo(), -5);
        x.addMember(1);
        for (int i = 1; i <= 5; i++) x.pass(i);
        typeAll(x, "0=1");
        due("count(14)", x.count(14), 4);
        due("undo()", x.undo(), 3);
        due("day", x.count(0), 10);
        due("undo()", x.undo(), 2);
        due("undo()", x.undo(), 1);
        due("day", x.count(0), 3);
        x.pass(100);
        due("count(14)", x.count(14), 2);
        due("undo()", x.undo(), 1);
        due("undo()", x.undo(), 0);
        due("day", x.count(0), 1);
        due("undo()", x.undo(), -5);
        due("day", x.count(0), 1);
        due("the text stays", x.count(15), 3);
        x.keep();
        x.pass(7);
        x.undo();
        x.pass(9);
        due("the snapshot stays", x.restore(), 1);
        undoOfAll();
    }

    /** A guild with an invoice ahead and one that is open, both old. */
    private static GuildFund guildLate() {
        GuildFund x = guildAhead();
        x.addInvoice(2, 4, 777, 3);
        x.pay(0, 500);
        x.pass(150);
        return x;
    }

    /** An undo and a restore bring back every number of the state. */
    private static void undoOfAll() {
        String was = picture(guildLate());
        GuildFund x = guildLate();
        x.giveUp(0);
        x.pay(1, 777);
        x.setRate(0, bits(0.5f));
        x.setNumber(2, 9);
        for (int i = 0; i < 4; i++) x.undo();
        if (!was.equals(picture(x))) due("all numbers are as they were", 0, 1);
        GuildFund y = guildLate();
        y.keep();
        y.giveUp(0);
        y.addMember(4);
        y.payDues(3, 55);
        y.restore();
        if (!was.equals(picture(y))) due("all numbers are as they were", 0, 1);
    }

    private static String picture(GuildFund x) {
        StringBuilder told = new StringBuilder();
        for (int what = 0; what <= 13; what++) told.append(x.count(what)).append(' ');
        for (int i = 0; i < x.count(4); i++) {
            for (int what = 0; what <= 5; what++) told.append(x.member(i, what)).append(' ');
        }
        for (int i = 0; i < 6; i++) {
            for (int what = 0; what <= 3; what++) told.append(x.client(i, what)).append(' ');
        }
        for (int i = 0; i < x.count(5); i++) {
            for (int what = 0; what <= 10; what++) told.append(x.invoice(i, what)).append(' ');
        }
        for (int i = 0; i < 3; i++) told.append(x.rate(i)).append(' ').append(x.number(i)).append(' ');
        return told.toString();
    }

    private static void keep() {
        GuildFund x = new GuildFund();
        due("keep()", x.keep(), 0);
        due("no act", x.count(14), 0);
        x.pass(8);
        due("keep()", x.keep(), 8);
        x.pass(1);
        due("in place of the one that was", x.restore(), 8);
        due("keep() leaves the state", x.count(0), 8);
    }

    private static void restore() {
        GuildFund x = new GuildFund();
        due("restore()", x.restore(), -5);
        due("count(14)", x.count(14), 0);
        x.pass(3);
        x.keep();
        x.pass(4);
        x.addMember(1);
        typeAll(x, "12");
        due("restore()", x.restore(), 3);
        due("count(4)", x.count(4), 0);
        due("the text stays", x.count(15), 2);
        due("an act", x.count(14), 4);
        due("restore() again", x.restore(), 3);
        due("undo()", x.undo(), 3);
        due("undo()", x.undo(), 2);
        due("count(4)", x.count(4), 1);
        due("count(0)", x.count(0), 7);
        x.addMember(2);
        x.undo();
        due("it stays", x.restore(), 3);
        x.pass(5);
        due("what comes later is not in it", x.restore(), 3);
        restorePlaces();
    }

    /** What was written over in the places of members and invoices comes back. */
    private static void restorePlaces() {
        GuildFund x = new GuildFund();
        x.addMember(3);
        x.addInvoice(0, 5, 500, 50);
        x.keep();
        String was = picture(x);
        x.undo();
        x.undo();
        x.addMember(8);
        x.addMember(7);
        x.payDues(0, 12);
        x.addInvoice(1, 4, 600, 60);
        x.restore();
        if (!was.equals(picture(x))) due("all numbers are as they were", 0, 1);
        x.undo();
        due("member(0, 0)", x.member(0, 0), 8);
        due("invoice(0, 0)", x.invoice(0, 0), 1);
    }

    private static void rate() {
        GuildFund x = new GuildFund();
        due("rate(-1)", x.rate(-1), Float.NaN);
        due("rate(3)", x.rate(3), Float.NaN);
        due("rate(MIN)", x.rate(MIN), Float.NaN);
        x.setRate(1, bits(0.03f));
        due("rate(0)", x.rate(0), 0.9f);
        due("rate(1)", x.rate(1), 0.03f);
        due("rate(2)", x.rate(2), 0.1f);
    }

    private static void number() {
        GuildFund x = new GuildFund();
        due("number(-1)", x.number(-1), -1);
        due("number(3)", x.number(3), -1);
        due("number(MAX)", x.number(MAX), -1);
        x.setNumber(1, 33);
        due("number(0)", x.number(0), 14);
        due("number(1)", x.number(1), 33);
        due("number(2)", x.number(2), 120);
    }

    private static void member() {
        GuildFund x = guildAhead();
        x.addInvoice(0, 1, 100, 0);
        x.addInvoice(1, 1, 100, 0);
        int[] want = {3, 500000, BILLION + 41500, 2, 1, BILLION};
        for (int what = 0; what < 6; what++) due("member(0, " + what + ")", x.member(0, what), want[what]);
        due("member(1, 3)", x.member(1, 3), 1);
        due("member(1, 4)", x.member(1, 4), 0);
        due("member(2, 3)", x.member(2, 3), 0);
        due("member(0, 6)", x.member(0, 6), -2);
        due("member(0, -1)", x.member(0, -1), -2);
        due("member(3, 6)", x.member(3, 6), -1);
        due("member(-1, 0)", x.member(-1, 0), -1);
        x.pay(0, 100000);
        due("settled ones count", x.member(0, 3), 2);
        due("member(0, 4)", x.member(0, 4), 0);
    }

    private static void client() {
        GuildFund x = guildAhead();
        x.addInvoice(1, 2, 100, 0);
        x.addInvoice(1, 2, 100, 10);
        x.addInvoice(1, 1, 100, 10);
        due("client(2, 3)", x.client(2, 3), 3);
        x.pay(1, 100);
        x.pay(2, 100);
        due("client(2, 0)", x.client(2, 0), 2);
        due("client(2, 1)", x.client(2, 1), 0);
        due("client(2, 2)", x.client(2, 2), 18);
        due("client(2, 3)", x.client(2, 3), 1);
        x.pass(200);
        x.giveUp(0);
        due("client(2, 1)", x.client(2, 1), 1);
        due("client(2, 3)", x.client(2, 3), 0);
        due("client(1, 3)", x.client(1, 3), 1);
        due("client(0, 3)", x.client(0, 3), 0);
        due("client(6, 4)", x.client(6, 4), -1);
        due("client(-1, 0)", x.client(-1, 0), -1);
        due("client(0, 4)", x.client(0, 4), -2);
        due("client(0, -1)", x.client(0, -1), -2);
    }

    private static void risk() {
        GuildFund x = guildAhead();
        due("risk(-1)", x.risk(-1), Float.NaN);
        due("risk(6)", x.risk(6), Float.NaN);
        due("risk(2)", x.risk(2), 0.5f);
        x.pay(0, 100000);
        due("risk(2)", x.risk(2), 1.0f / 3.0f);
        due("risk(1)", x.risk(1), 0.5f);
        x.addInvoice(0, 2, 100, 0);
        x.pass(365);
        x.giveUp(1);
        due("risk(2)", x.risk(2), 0.5f);
        x.addInvoice(0, 2, 100, 0);
        x.giveUp(2);
        due("risk(2)", x.risk(2), 3.0f / 5.0f);
    }

    private static void lateness() {
        GuildFund x = guildAhead();
        due("lateness(-1)", x.lateness(-1), Float.NaN);
        due("lateness(6)", x.lateness(6), Float.NaN);
        due("lateness(2)", x.lateness(2), 0.0f);
        x.addInvoice(0, 2, 100, 4);
        x.addInvoice(0, 2, 100, 99);
        read(x, "0=100000,1=100,2=100");
        due("lateness(2)", x.lateness(2), 8.0f);
        x.addInvoice(0, 2, 100, 13);
        x.pay(3, 100);
        due("lateness(2)", x.lateness(2), 25.0f / 4.0f);
        due("lateness(5)", x.lateness(5), 0.0f);
    }

    private static void invoice() {
        GuildFund x = guildAhead();
        x.addInvoice(2, 5, 40001, 20);
        int[] first = {0, 2, 100000, 0, 1, 0, 41500, 100014, 41500, 0, 0};
        int[] second = {2, 5, 40001, 20, 0, 0, 0, 99994, 18000, 0, 0};
        for (int what = 0; what <= 10; what++) {
            due("invoice(0, " + what + ")", x.invoice(0, what), first[what]);
            due("invoice(1, " + what + ")", x.invoice(1, what), second[what]);
        }
        x.pass(19);
        due("invoice(1, 9)", x.invoice(1, 9), 0);
        x.pass(1);
        due("invoice(1, 9)", x.invoice(1, 9), 1);
        x.pay(1, 3);
        due("invoice(1, 5)", x.invoice(1, 5), 3);
        due("invoice(1, 9)", x.invoice(1, 9), 0);
        x.pass(85);
        due("invoice(0, 10)", x.invoice(0, 10), 0);
        x.pass(1);
        due("invoice(0, 10)", x.invoice(0, 10), 1);
        x.giveUp(0);
        due("invoice(0, 10)", x.invoice(0, 10), 0);
        due("invoice(0, 4)", x.invoice(0, 4), 3);
        // 0.9 - 0.005 * 120 is 0.3, and the risk is two thirds now.
        due("the offer when it is lost", x.invoice(0, 8), 10000);
        due("invoice(2, 99)", x.invoice(2, 99), -1);
        due("invoice(-1, 0)", x.invoice(-1, 0), -1);
        due("invoice(0, 11)", x.invoice(0, 11), -2);
        due("invoice(0, -1)", x.invoice(0, -1), -2);
    }

    private static void rateIn() {
        GuildFund x = guildAhead();
        x.addInvoice(0, 2, 100, 24);
        due("rateIn(0, 0)", x.rateIn(0, 0), (0.9f - 0.005f * 14.0f) * 0.5f);
        due("rateIn(0, 7)", x.rateIn(0, 7), (0.9f - 0.005f * 21.0f) * 0.5f);
        due("rateIn(1, 0)", x.rateIn(1, 0), 0.9f * 0.5f);
        due("rateIn(1, 10)", x.rateIn(1, 10), 0.9f * 0.5f);
        due("rateIn(1, 11)", x.rateIn(1, 11), (0.9f - 0.005f) * 0.5f);
        due("rateIn(1, 1000)", x.rateIn(1, 1000), 0.0f);
        due("rateIn(1, 1001)", x.rateIn(1, 1001), Float.NaN);
        due("rateIn(1, -1)", x.rateIn(1, -1), Float.NaN);
        due("rateIn(2, 0)", x.rateIn(2, 0), Float.NaN);
        due("rateIn(-1, 0)", x.rateIn(-1, 0), Float.NaN);
        due("rateIn(0, MAX)", x.rateIn(0, MAX), Float.NaN);
        x.pay(0, 100000);
        due("behind a settled one", x.rateIn(1, 0), 0.9f * (1.0f - 1.0f / 3.0f));
        x.setRate(1, 0);
        due("without a loss of a day", x.rateIn(1, 1000), 0.9f * (1.0f - 1.0f / 3.0f));
    }

    private static void worth() {
        GuildFund x = guild();
        x.addInvoice(0, 2, 100000, 0);
        x.addInvoice(1, 2, 40001, 10);
        x.pass(14);
        due("worth(0)", x.worth(0), 8500.0f);
        due("worth(1)", x.worth(1), 2400.5f);
        due("worth(2)", x.worth(2), Float.NaN);
        due("worth(-1)", x.worth(-1), Float.NaN);
        x.pass(130);
        x.giveUp(0);
        float risk = 2.0f / 3.0f;
        int offer = (int) (40001.0f * ((0.9f - 0.005f * 134.0f) * (1.0f - risk)));
        due("worth(1)", x.worth(1), (float) (40001 - offer) * (1.0f - risk) - (float) offer * risk);
        GuildFund y = new GuildFund();
        y.addMember(1);
        y.addInvoice(0, 0, 1000, 0);
        y.addInvoice(0, 0, 1000, 0);
        y.setRate(0, bits(1.0f));
        y.pass(30);
        y.setNumber(2, 1);
        y.giveUp(0);
        // The offer is 283: 717 times a third less 283 times two thirds.
        due("worth(1)", y.worth(1), 717.0f * (1.0f - risk) - 283.0f * risk);
    }

    private static void best() {
        GuildFund x = guild();
        due("best(-1)", x.best(-1), -2);
        due("best(MIN)", x.best(MIN), -2);
        due("best(0)", x.best(0), -5);
        x.setNumber(0, 0);
        x.addInvoice(0, 1, 5000, 0);
        x.addInvoice(0, 2, 9000, 0);
        x.addInvoice(1, 3, 5000, 0);
        x.addInvoice(1, 4, 7000, 0);
        x.addInvoice(1, 4, 9000, 0);
        x.addInvoice(1, 5, 999999, 1);
        int[] want = {1, 4, 3, 0, 2, -5};
        for (int rank = 0; rank < want.length; rank++) due("best(" + rank + ")", x.best(rank), want[rank]);
        due("best(MAX)", x.best(MAX), -5);
        x.payAhead(4);
        x.pay(0, 1);
        due("best(0)", x.best(0), 1);
        due("best(1)", x.best(1), 3);
        due("best(2)", x.best(2), 2);
        due("best(3)", x.best(3), -5);
        x.pass(1);
        due("best(0)", x.best(0), 5);
    }

    private static void worthlessIn() {
        GuildFund x = guild();
        due("worthlessIn(0)", x.worthlessIn(0), -1);
        due("worthlessIn(-1)", x.worthlessIn(-1), -1);
        x.addInvoice(0, 1, 5000, 0);
        x.addInvoice(0, 1, 5000, 10);
        x.addInvoice(0, 1, 5000, 820);
        x.addInvoice(0, 1, 5000, 821);
        due("worthlessIn(0)", x.worthlessIn(0), 180);
        due("worthlessIn(1)", x.worthlessIn(1), 190);
        due("just within", x.worthlessIn(2), 1000);
        due("just too late", x.worthlessIn(3), -5);
        x.pass(179);
        due("worthlessIn(0)", x.worthlessIn(0), 1);
        x.pass(1);
        due("now", x.worthlessIn(0), 0);
        x.pass(200);
        due("still", x.worthlessIn(0), 0);
        x.setRate(1, 0);
        due("never", x.worthlessIn(0), -5);
        // An offer below one cent is 0 although the rate is not.
        GuildFund y = guild();
        y.addInvoice(0, 1, 100, 0);
        due("below a cent", y.worthlessIn(0), 176);
        due("rateIn(0, 176) is above 0", y.rateIn(0, 176) > 0.0f ? 1 : 0, 1);
        y.pay(0, 100);
        due("whatever its state", y.worthlessIn(0), 177);
    }

    private static void exposure() {
        GuildFund x = new GuildFund();
        due("without dues", x.exposure(), Float.NaN);
        x.addMember(1);
        due("without dues", x.exposure(), Float.NaN);
        x.payDues(0, 1);
        due("without advances", x.exposure(), 0.0f);
        GuildFund y = guildAhead();
        y.addInvoice(0, 3, 10000, 0);
        due("exposure()", y.exposure(), 41500.0f / 700000.0f);
        due("payAhead(1)", y.payAhead(1), 4150);
        due("exposure()", y.exposure(), 45650.0f / 700000.0f);
        y.pay(0, 100000);
        due("settled is not out", y.exposure(), 4150.0f / 700000.0f);
        y.pass(300);
        y.giveUp(1);
        due("lost is not out", y.exposure(), 0.0f);
    }

    private static void count() {
        GuildFund x = guildAhead();
        x.addInvoice(1, 3, 10000, 0);
        x.addInvoice(1, 4, 700, 0);
        x.addInvoice(1, 4, 600, 0);
        x.payAhead(1);
        x.pay(0, 100000);
        x.pay(2, 700);
        x.pass(300);
        x.giveUp(1);
        typeAll(x, "12=");
        int[] want = {
            314, BILLION + 710000, 700000, 140000, 3, 4, 1, 0, 2, 1, 45650, 100700, 48500, 4150, 4, 3,
        };
        for (int what = 0; what < want.length; what++) due("count(" + what + ")", x.count(what), want[what]);
        due("count(16)", x.count(16), -2);
        due("count(-1)", x.count(-1), -2);
        due("count(MIN)", x.count(MIN), -2);
        GuildFund y = guildAhead();
        due("count(7)", y.count(7), 1);
        // All dues times the percent go beyond an int.
        GuildFund z = new GuildFund();
        z.addMember(1);
        for (int i = 0; i < 99; i++) z.payDues(0, 1000000);
        z.setNumber(1, 90);
        due("count(3)", z.count(3), 89100000);
    }
}
