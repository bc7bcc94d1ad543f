import java.util.ArrayDeque;
import java.util.ArrayList;
import java.util.Comparator;
import java.util.Deque;
import java.util.List;
import java.util.regex.Matcher;
import java.util.regex.Pattern;

/**
 * Long runs of calls, each answer compared with that of a second, plain reading of the document.
 * The calls come from a fixed row of numbers, so that each run is the same.
 */
public final class GuildFundModel {
    private static final int RUNS = 1500;
    private static final int CALLS = 512;

    private static final class Member {
        int weight, dues, purse, borne;
        Member copy() {
            Member c = new Member();
            c.weight = weight; c.dues = dues; c.purse = purse; c.borne = borne;
            return c;
        }
    }

    private static final class Client {
        int settled, lost, days;
        Client copy() {
            Client c = new Client();
            c.settled = settled; c.lost = lost; c.days = days;
            return c;
        }
        float risk() {
            return (lost + 1) / (float) (settled + lost + 2);
        }
    }

    private static final class Invoice {
        int member, client, amount, due, state, paid, advance;
        Invoice copy() {
            Invoice c = new Invoice();
            c.member = member; c.client = client; c.amount = amount; c.due = due;
            c.state = state; c.paid = paid; c.advance = advance;
            return c;
        }
    }

    private static final class State {
        float[] rates = {0.9f, 0.005f, 0.1f};
        int[] numbers = {14, 20, 120};
        List<Member> members = new ArrayList<>();
        List<Client> clients = new ArrayList<>();
        List<Invoice> invoices = new ArrayList<>();
        int day, balance, advanced, collected, behind, losses;

        State copy() {
            State c = new State();
            c.rates = rates.clone();
            c.numbers = numbers.clone();
            for (Member m : members) c.members.add(m.copy());
            for (Client k : clients) c.clients.add(k.copy());
            for (Invoice i : invoices) c.invoices.add(i.copy());
            c.day = day; c.balance = balance; c.advanced = advanced;
            c.collected = collected; c.behind = behind; c.losses = losses;
            return c;
        }
    }

    /** The second reading; each call answers a number, a float by its bits. */
    private static final class Fund {
        private static final Pattern PREFIX = Pattern.compile(
            "((0|[1-9][0-9]?)=[1-9][0-9]{0,6},)*((0|[1-9][0-9]?)(=([1-9][0-9]{0,6})?)?)?");
        private static final Pattern WHOLE = Pattern.compile(
            "(0|[1-9][0-9]?)=[1-9][0-9]{0,6}(,(0|[1-9][0-9]?)=[1-9][0-9]{0,6})*");
        private static final Pattern ONE = Pattern.compile("([0-9]+)=([0-9]+)");

        State s = new State();
        State kept;
        Deque<State> past = new ArrayDeque<>();
        String text = "";
        int[] refused;

        Fund() {
            for (int i = 0; i < 6; i++) s.clients.add(new Client());
        }

        private void record(State was) {
            past.addLast(was);
            if (past.size() > 4) past.removeFirst();
        }

        private boolean isInvoice(int i) {
            return i >= 0 && i < s.invoices.size();
        }

        private boolean isMember(int i) {
            return i >= 0 && i < s.members.size();
        }

        int setRate(int which, int bits) {
            if (which < 0 || which > 2) return -1;
            float[] low = {0.1f, 0.0f, 0.0f};
            float[] high = {1.0f, 0.05f, 0.5f};
            float value = Float.intBitsToFloat(bits);
            if (!(value >= low[which] && value <= high[which]) || bits == Integer.MIN_VALUE) return -2;
            if (value == s.rates[which]) return -5;
            record(s.copy());
            s.rates[which] = value;
            return 1;
        }

        int setNumber(int which, int value) {
            if (which < 0 || which > 2) return -1;
            if (value < (which == 2 ? 1 : 0) || value > (which == 2 ? 365 : 90)) return -2;
            if (value == s.numbers[which]) return -5;
            record(s.copy());
            int previous = s.numbers[which];
            s.numbers[which] = value;
            return previous;
        }

        int addMember(int weight) {
            if (weight < 1 || weight > 9) return -2;
            if (s.members.size() == 8) return -3;
            record(s.copy());
            Member m = new Member();
            m.weight = weight;
            s.members.add(m);
            return s.members.size() - 1;
        }

        int payDues(int member, int cents) {
            if (!isMember(member)) return -1;
            if (cents < 1 || cents > 1000000) return -2;
            if (s.members.get(member).dues + (long) cents > 100000000L) return -3;
            record(s.copy());
            s.balance += cents;
            return s.members.get(member).dues += cents;
        }

        int addInvoice(int member, int client, int amount, int due) {
            if (!isMember(member) || client < 0 || client > 5) return -1;
            if (amount < 100 || amount > 1000000 || due < 0 || due > 9999) return -2;
            if (s.invoices.size() == 20) return -3;
            record(s.copy());
            Invoice i = new Invoice();
            i.member = member; i.client = client; i.amount = amount; i.due = due;
            s.invoices.add(i);
            return s.invoices.size() - 1;
        }

        private float rateOf(Invoice i, int days) {
            int late = Math.max(0, s.day + days - i.due);
            return Math.max(0.0f, s.rates[0] - s.rates[1] * late) * (1.0f - s.clients.get(i.client).risk());
        }

        private int offerOf(Invoice i, int days) {
            return (int) (i.amount * rateOf(i, days));
        }

        private int dues() {
            return s.members.stream().mapToInt(m -> m.dues).sum();
        }

        private int reserve() {
            return (int) Math.floorDiv((long) dues() * s.numbers[1], 100L);
        }

        private boolean payable(Invoice i) {
            int offer = offerOf(i, 0);
            return i.state == 0 && i.paid == 0 && s.day - i.due >= s.numbers[0] && offer > 0
                && s.balance - offer >= reserve();
        }

        private boolean losable(Invoice i) {
            return i.state < 2 && s.day - i.due >= s.numbers[2];
        }

        int payAhead(int invoice) {
            if (!isInvoice(invoice)) return -1;
            Invoice test = s.invoices.get(invoice);
            if (!payable(test)) return -4;
            record(s.copy());
            int offer = offerOf(test, 0);
            test.state = 1;
            test.advance = offer;
            s.balance -= offer;
            s.members.get(test.member).purse += offer;
            s.advanced += offer;
            return offer;
        }

        /** Pays without a record: what is left, or an error. */
        private int payOnly(int invoice, int cents) {
            if (!isInvoice(invoice)) return -1;
            Invoice i = s.invoices.get(invoice);
            if (i.state > 1) return -4;
            if (cents < 1 || cents > i.amount - i.paid) return -2;
            i.paid += cents;
            s.collected += cents;
            Member m = s.members.get(i.member);
            if (i.state == 0) m.purse += cents; else s.balance += cents;
            if (i.paid == i.amount) {
                Client k = s.clients.get(i.client);
                k.settled++;
                k.days += Math.max(0, s.day - i.due);
                int more = i.amount - i.advance - (int) (i.amount * s.rates[2]);
                if (i.state == 1 && more > 0) {
                    s.balance -= more;
                    m.purse += more;
                    s.behind += more;
                }
                i.state = 2;
            }
            return i.amount - i.paid;
        }

        int pay(int invoice, int cents) {
            State was = s.copy();
            int answer = payOnly(invoice, cents);
            if (answer >= 0) record(was);
            return answer;
        }

        int giveUp(int invoice) {
            if (!isInvoice(invoice)) return -1;
            Invoice i = s.invoices.get(invoice);
            if (!losable(i)) return -4;
            record(s.copy());
            int loss = i.state == 1 ? Math.max(0, i.advance - i.paid) : 0;
            i.state = 3;
            s.clients.get(i.client).lost++;
            int sum = s.members.stream().mapToInt(m -> m.weight).sum();
            int[] shares = new int[s.members.size()];
            int total = 0;
            for (int m = 0; m < shares.length; m++) {
                float product = loss * (float) s.members.get(m).weight;
                shares[m] = (int) (product / sum);
                total += shares[m];
            }
            for (int m = 0; total != loss; m = (m + 1) % shares.length) {
                shares[m] += total < loss ? 1 : -1;
                total += total < loss ? 1 : -1;
            }
            for (int m = 0; m < shares.length; m++) {
                s.members.get(m).purse -= shares[m];
                s.members.get(m).borne += shares[m];
                s.balance += shares[m];
            }
            s.losses += loss;
            return loss;
        }

        int readPayments() {
            if (!WHOLE.matcher(text).matches()) {
                int good = 0;
                while (good < text.length() && PREFIX.matcher(text.substring(0, good + 1)).matches()) good++;
                return -100 - good;
            }
            State was = s.copy();
            int settled = 0;
            int number = 0;
            Matcher m = ONE.matcher(text);
            while (m.find()) {
                int left = payOnly(Integer.parseInt(m.group(1)), Integer.parseInt(m.group(2)));
                if (left < 0) {
                    s = was;
                    refused = new int[] {number, left};
                    return -4;
                }
                if (left == 0) settled++;
                number++;
            }
            record(was);
            return settled;
        }

        int refusal(int what) {
            if (what != 0 && what != 1) return -2;
            return refused == null ? -5 : refused[what];
        }

        int pass(int days) {
            if (days < 1 || days > 365) return -2;
            if (s.day + days > 99999) return -4;
            record(s.copy());
            return s.day += days;
        }

        int type(char c) {
            if (text.length() == 60) return -3;
            text += c;
            return text.length();
        }

        int clearText() {
            int length = text.length();
            text = "";
            return length;
        }

        int undo() {
            if (past.isEmpty()) return -5;
            s = past.removeLast();
            return past.size();
        }

        int keep() {
            kept = s.copy();
            return s.day;
        }

        int restore() {
            if (kept == null) return -5;
            record(s);
            s = kept.copy();
            return s.day;
        }

        float rate(int which) {
            return which < 0 || which > 2 ? Float.NaN : s.rates[which];
        }

        int number(int which) {
            return which < 0 || which > 2 ? -1 : s.numbers[which];
        }

        int member(int member, int what) {
            if (!isMember(member)) return -1;
            if (what < 0 || what > 5) return -2;
            Member m = s.members.get(member);
            int all = (int) s.invoices.stream().filter(i -> i.member == member).count();
            int ahead = (int) s.invoices.stream().filter(i -> i.member == member && i.state == 1).count();
            int[] told = {m.weight, m.dues, m.purse + 1000000000, all, ahead, m.borne + 1000000000};
            return told[what];
        }

        int client(int client, int what) {
            if (client < 0 || client > 5) return -1;
            if (what < 0 || what > 3) return -2;
            Client k = s.clients.get(client);
            int out = (int) s.invoices.stream().filter(i -> i.client == client && i.state <= 1).count();
            int[] told = {k.settled, k.lost, k.days, out};
            return told[what];
        }

        float risk(int client) {
            return client < 0 || client > 5 ? Float.NaN : s.clients.get(client).risk();
        }

        float lateness(int client) {
            if (client < 0 || client > 5) return Float.NaN;
            Client k = s.clients.get(client);
            return k.settled == 0 ? 0.0f : (float) k.days / k.settled;
        }

        int invoice(int invoice, int what) {
            if (!isInvoice(invoice)) return -1;
            if (what < 0 || what > 10) return -2;
            Invoice i = s.invoices.get(invoice);
            int[] told = {
                i.member, i.client, i.amount, i.due, i.state, i.paid, i.advance, s.day - i.due + 100000,
                offerOf(i, 0), payable(i) ? 1 : 0, losable(i) ? 1 : 0,
            };
            return told[what];
        }

        float rateIn(int invoice, int days) {
            if (!isInvoice(invoice) || days < 0 || days > 1000) return Float.NaN;
            return rateOf(s.invoices.get(invoice), days);
        }

        private float worthOf(Invoice i) {
            int offer = offerOf(i, 0);
            float risk = s.clients.get(i.client).risk();
            float gain = (i.amount - offer) * (1.0f - risk);
            float danger = offer * risk;
            return gain - danger;
        }

        float worth(int invoice) {
            return isInvoice(invoice) ? worthOf(s.invoices.get(invoice)) : Float.NaN;
        }

        int best(int rank) {
            if (rank < 0) return -2;
            List<Invoice> order = new ArrayList<>(s.invoices);
            order.removeIf(i -> !payable(i));
            order.sort(Comparator.comparing((Invoice i) -> -worthOf(i)).thenComparing(s.invoices::indexOf));
            return rank < order.size() ? s.invoices.indexOf(order.get(rank)) : -5;
        }

        int worthlessIn(int invoice) {
            if (!isInvoice(invoice)) return -1;
            int days = 0;
            while (days <= 1000 && offerOf(s.invoices.get(invoice), days) != 0) days++;
            return days > 1000 ? -5 : days;
        }

        float exposure() {
            int out = s.invoices.stream().filter(i -> i.state == 1).mapToInt(i -> i.advance).sum();
            return dues() == 0 ? Float.NaN : (float) out / dues();
        }

        int count(int what) {
            if (what < 0 || what > 15) return -2;
            int[] states = new int[4];
            for (Invoice i : s.invoices) states[i.state]++;
            int[] told = {
                s.day, s.balance + 1000000000, dues(), reserve(), s.members.size(), s.invoices.size(),
                states[0], states[1], states[2], states[3], s.advanced, s.collected, s.behind, s.losses,
                past.size(), text.length(),
            };
            return told[what];
        }
    }

    // ---- the runs

    private static final int[] ODD = {
        Integer.MIN_VALUE, -1000000000, -2, -1, 0, 1, 60, 100, 1000, 1000000, 1000000000, Integer.MAX_VALUE,
    };
    private static final char[] SIGNS = "0123456789=,=,1234 a/:-".toCharArray();

    private static long seed;
    private static int wrong = 0;

    private static int roll(int bound) {
        seed = seed * 6364136223846793005L + 1442695040888963407L;
        return (int) ((seed >>> 33) % bound);
    }

    /** Most often a number from low to high, at times an edge of it or a wrong one. */
    private static int some(int low, int high) {
        switch (roll(24)) {
            case 0: return ODD[roll(ODD.length)];
            case 1: return low - 1;
            case 2: return high + 1;
            case 3: return low;
            case 4: return high;
            default: return low + roll(high - low + 1);
        }
    }

    private static int bits(float value) {
        return Float.floatToIntBits(value);
    }

    private static int someRate(int which) {
        float[] high = {1.0f, 0.05f, 0.5f};
        switch (roll(10)) {
            case 0: return ODD[roll(ODD.length)];
            case 1: return roll(1 << 30);
            case 2: return bits(-0.0f);
            case 3: return bits(which == 0 ? 0.1f : 0.0f);
            case 4: return bits(high[Math.floorMod(which, 3)]);
            case 5: return 1 << roll(31);
            default: return bits(high[Math.floorMod(which, 3)] * (roll(1001) / 1000.0f));
        }
    }

    private static String somePayments(Fund y) {
        StringBuilder text = new StringBuilder();
        int payments = 1 + roll(4);
        for (int i = 0; i < payments; i++) {
            int invoice = some(0, Math.max(0, y.s.invoices.size() - 1));
            int left = 50;
            if (y.isInvoice(invoice)) left = y.s.invoices.get(invoice).amount - y.s.invoices.get(invoice).paid;
            int cents = roll(3) == 0 ? left : 1 + roll(Math.max(1, left));
            if (i > 0) text.append(',');
            text.append(invoice).append('=').append(cents);
        }
        if (roll(6) == 0) text.insert(roll(text.length() + 1), SIGNS[roll(SIGNS.length)]);
        if (roll(6) == 0) text.deleteCharAt(roll(text.length()));
        return text.toString();
    }

    private static void same(int run, int call, String name, int got, int want) {
        if (got == want) return;
        wrong++;
        if (wrong > 20) return;
        System.out.println("run " + run + ", call " + call + ": " + name + " answered " + got + ", due is " + want);
    }

    private static int someMember(Fund y) {
        return some(0, Math.max(0, y.s.members.size() - 1));
    }

    private static int someInvoice(Fund y) {
        return some(0, Math.max(0, y.s.invoices.size() - 1));
    }

    /** Clears the text, types one of payments and reads it; tells how many calls that took. */
    private static int typeAndRead(int run, int call, GuildFund x, Fund y) {
        String text = somePayments(y);
        same(run, call, "clearText", x.clearText(), y.clearText());
        for (int i = 0; i < text.length(); i++) {
            same(run, call, "type", x.type(text.charAt(i)), y.type(text.charAt(i)));
        }
        same(run, call, "readPayments of " + text, x.readPayments(), y.readPayments());
        return text.length() + 2;
    }

    private static int act(int run, int call, GuildFund x, Fund y) {
        int a;
        int b;
        switch (roll(16)) {
            case 0: a = some(0, 2); b = someRate(a); same(run, call, "setRate", x.setRate(a, b), y.setRate(a, b)); break;
            case 1: a = some(0, 2); b = some(0, a == 2 ? 365 : 90); same(run, call, "setNumber", x.setNumber(a, b), y.setNumber(a, b)); break;
            case 2: a = some(1, 9); same(run, call, "addMember", x.addMember(a), y.addMember(a)); break;
            case 3: a = someMember(y); b = some(1, 1000000); same(run, call, "payDues", x.payDues(a, b), y.payDues(a, b)); break;
            case 4:
            case 5: {
                a = someMember(y);
                b = some(0, 5);
                int amount = roll(2) == 0 ? some(100, 1000000) : some(100, 2000);
                int due = roll(8) == 0 ? some(0, 9999) : Math.max(0, Math.min(9999, y.s.day - roll(200) + 30));
                same(run, call, "addInvoice", x.addInvoice(a, b, amount, due), y.addInvoice(a, b, amount, due));
                break;
            }
            case 6:
            case 7:
            case 8: a = someInvoice(y); same(run, call, "payAhead", x.payAhead(a), y.payAhead(a)); break;
            case 9: {
                a = someInvoice(y);
                int left = y.isInvoice(a) ? y.s.invoices.get(a).amount - y.s.invoices.get(a).paid : 9;
                b = roll(3) == 0 ? left : some(1, Math.max(1, left));
                same(run, call, "pay", x.pay(a, b), y.pay(a, b));
                break;
            }
            case 10:
            case 11: a = someInvoice(y); same(run, call, "giveUp", x.giveUp(a), y.giveUp(a)); break;
            case 12: return roll(4) == 0 ? typeAndRead(run, call, x, y) : 0;
            case 13: a = roll(3) == 0 ? some(1, 365) : 1 + roll(20); same(run, call, "pass", x.pass(a), y.pass(a)); break;
            case 14:
                switch (roll(6)) {
                    case 0: same(run, call, "keep", x.keep(), y.keep()); break;
                    case 1: same(run, call, "restore", x.restore(), y.restore()); break;
                    case 2: same(run, call, "undo", x.undo(), y.undo()); break;
                    default: break;
                }
                break;
            default: {
                char sign = SIGNS[roll(SIGNS.length)];
                same(run, call, "type", x.type(sign), y.type(sign));
                same(run, call, "readPayments", x.readPayments(), y.readPayments());
                return 2;
            }
        }
        return 1;
    }

    private static void ask(int run, int call, GuildFund x, Fund y) {
        int i = someInvoice(y);
        int m = someMember(y);
        int k = some(0, 5);
        int a;
        switch (roll(14)) {
            case 0: a = some(0, 2); same(run, call, "rate", bits(x.rate(a)), bits(y.rate(a))); break;
            case 1: a = some(0, 2); same(run, call, "number", x.number(a), y.number(a)); break;
            case 2: a = some(0, 5); same(run, call, "member " + a, x.member(m, a), y.member(m, a)); break;
            case 3: a = some(0, 3); same(run, call, "client " + a, x.client(k, a), y.client(k, a)); break;
            case 4: same(run, call, "risk", bits(x.risk(k)), bits(y.risk(k))); break;
            case 5: same(run, call, "lateness", bits(x.lateness(k)), bits(y.lateness(k))); break;
            case 6: a = some(0, 10); same(run, call, "invoice " + a, x.invoice(i, a), y.invoice(i, a)); break;
            case 7: a = some(0, 1000); same(run, call, "rateIn", bits(x.rateIn(i, a)), bits(y.rateIn(i, a))); break;
            case 8: same(run, call, "worth", bits(x.worth(i)), bits(y.worth(i))); break;
            case 9: a = some(0, 6); same(run, call, "best", x.best(a), y.best(a)); break;
            case 10: same(run, call, "worthlessIn", x.worthlessIn(i), y.worthlessIn(i)); break;
            case 11: same(run, call, "exposure", bits(x.exposure()), bits(y.exposure())); break;
            case 12: a = some(0, 1); same(run, call, "refusal", x.refusal(a), y.refusal(a)); break;
            default: a = some(0, 15); same(run, call, "count " + a, x.count(a), y.count(a)); break;
        }
    }

    /** The most calls that a part of askAll() and one act with its question take. */
    private static final int[] LAST_CALLS = {40, 143, 143, 128};
    private static final int LONGEST_ACT = 64;

    /** At the end of a run a part of all that can be told is compared; all of it would be too many calls. */
    private static void askAll(int run, GuildFund x, Fund y) {
        int part = run % LAST_CALLS.length;
        if (part == 0) {
            for (int what = -1; what <= 16; what++) same(run, CALLS, "count", x.count(what), y.count(what));
            for (int i = -1; i <= 20; i++) same(run, CALLS, "best", x.best(i), y.best(i));
        } else if (part < 3) {
            int from = part == 1 ? -1 : 10;
            for (int i = from; i <= from + 10; i++) {
                for (int what = -1; what <= 11; what++) same(run, CALLS, "invoice", x.invoice(i, what), y.invoice(i, what));
            }
        } else {
            for (int i = -1; i <= 8; i++) {
                for (int what = -1; what <= 6; what++) same(run, CALLS, "member", x.member(i, what), y.member(i, what));
            }
            for (int i = -1; i <= 6; i++) {
                for (int what = -1; what <= 4; what++) same(run, CALLS, "client", x.client(i, what), y.client(i, what));
            }
        }
    }

    public static void main(String[] args) {
        int[] states = new int[4];
        int shared = 0;
        for (int run = 0; run < RUNS; run++) {
            seed = run;
            GuildFund x = new GuildFund();
            Fund y = new Fund();
            int calls = 0;
            while (calls < CALLS - LONGEST_ACT - LAST_CALLS[run % LAST_CALLS.length]) {
                calls += act(run, calls, x, y);
                ask(run, calls, x, y);
                calls++;
            }
            askAll(run, x, y);
            for (int i = 0; i < 4; i++) states[i] += y.count(6 + i);
            if (y.count(13) > 0) shared++;
        }
        // Runs in which nothing is paid ahead or lost would show little.
        for (int i = 0; i < 4; i++) {
            if (states[i] < RUNS / 2) same(-1, 0, "enough invoices in state " + i, states[i], RUNS / 2);
        }
        if (shared < RUNS / 8) same(-1, 0, "enough runs with a shared loss", shared, RUNS / 8);
        System.out.println(wrong == 0 ? "both readings agree" : wrong + " answers are not as due");
        if (wrong != 0) System.exit(1);
    }
}
