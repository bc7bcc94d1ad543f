/** A fund of a guild of freelancers that pays late invoices ahead and collects them. */
public final class GuildFund {
    /** There is no such member, client, invoice, rate or number. */
    public static final int UNKNOWN = -1;
    /** Another argument is out of range. */
    public static final int BAD_VALUE = -2;
    /** There is no more room. */
    public static final int FULL = -3;
    /** This is not possible. */
    public static final int NOT_POSSIBLE = -4;
    /** There is no such thing; not an error. */
    public static final int NONE = -5;

    private static final int NO_ERROR = 0;
    private static final int FIRST_FAULT = -100;

    private static final int MOST_MEMBERS = 8;
    private static final int MOST_CLIENTS = 6;
    private static final int MOST_INVOICES = 20;
    private static final int MOST_SIGNS = 60;
    private static final int MOST_STATES = 4;

    private static final int HEAVIEST = 9;
    private static final int MOST_CENTS = 1000000;
    private static final int MOST_DUES = 100000000;
    private static final int LEAST_AMOUNT = 100;
    private static final int LAST_DUE = 9999;
    private static final int LONGEST_PASS = 365;
    private static final int LAST_DAY = 99999;
    private static final int FARTHEST = 1000;

    /** Added where a number may be below 0, so that it does not look like an error. */
    private static final int MONEY_SHIFT = 1000000000;
    private static final int AGE_SHIFT = 100000;

    private static final int OPEN = 0;
    private static final int AHEAD = 1;
    private static final int SETTLED = 2;
    private static final int LOST = 3;

    private static final int BASE = 0;
    private static final int DAY_LOSS = 1;
    private static final int FEE = 2;
    private static final int RATES = 3;

    private static final int WAIT = 0;
    private static final int RESERVE = 1;
    private static final int PATIENCE = 2;
    private static final int NUMBERS = 3;

    /** The bits of 0.1f, 0.0f and 0.0f: floats from 0.0f on have the order of their bits. */
    private static final int[] LOWEST_RATE = {0x3DCCCCCD, 0, 0};
    /** The bits of 1.0f, 0.05f and 0.5f. */
    private static final int[] HIGHEST_RATE = {0x3F800000, 0x3D4CCCCD, 0x3F000000};
    private static final int[] LOWEST_NUMBER = {0, 0, 1};
    private static final int[] HIGHEST_NUMBER = {90, 90, 365};

    // All states are made once, and copied into one another: no call makes an object.
    private final Book now = new Book();
    private final Book before = new Book();
    private final Book snapshot = new Book();
    private final History history = new History();
    private final Text text = new Text();
    private final Ranking ranking = new Ranking();
    private boolean kept;
    private int refusedPayment;
    private int refusedError = NO_ERROR;

    /** Creates a fund without members. */
    public GuildFund() {
    }

    // ---- settings

    /** Sets a rate, given by its bits. */
    public int setRate(int which, int bits) {
        if (which < 0 || which >= RATES) return UNKNOWN;
        // -0.0f and all below 0 have bits below 0; a NaN has bits above those of every number.
        if (bits < LOWEST_RATE[which] || bits > HIGHEST_RATE[which]) return BAD_VALUE;
        float value = floatOf(bits);
        if (now.rates[which] == value) return NONE;
        history.push(now);
        now.rates[which] = value;
        return 1;
    }

    /** Sets a number. */
    public int setNumber(int which, int value) {
        if (which < 0 || which >= NUMBERS) return UNKNOWN;
        if (value < LOWEST_NUMBER[which] || value > HIGHEST_NUMBER[which]) return BAD_VALUE;
        int previous = now.numbers[which];
        if (previous == value) return NONE;
        history.push(now);
        now.numbers[which] = value;
        return previous;
    }

    // ---- members and invoices

    /** Adds a member. */
    public int addMember(int weight) {
        if (weight < 1 || weight > HEAVIEST) return BAD_VALUE;
        if (now.members.size >= MOST_MEMBERS) return FULL;
        history.push(now);
        return now.members.append(weight);
    }

    /** A member pays dues; they come to the balance. */
    public int payDues(int member, int cents) {
        Members members = now.members;
        if (!members.has(member)) return UNKNOWN;
        if (cents < 1 || cents > MOST_CENTS) return BAD_VALUE;
        if (members.dues[member] + cents > MOST_DUES) return FULL;
        history.push(now);
        members.dues[member] += cents;
        now.balance += cents;
        return members.dues[member];
    }

    /** Adds an invoice. */
    public int addInvoice(int member, int client, int amount, int due) {
        if (!now.members.has(member) || !now.clients.has(client)) return UNKNOWN;
        if (amount < LEAST_AMOUNT || amount > MOST_CENTS) return BAD_VALUE;
        if (due < 0 || due > LAST_DUE) return BAD_VALUE;
        if (now.invoices.size >= MOST_INVOICES) return FULL;
        history.push(now);
        return now.invoices.append(member, client, amount, due);
    }

    // ---- the fund

    /** Pays an invoice ahead. */
    public int payAhead(int invoice) {
        if (!now.invoices.has(invoice)) return UNKNOWN;
        if (!now.canPayAhead(invoice)) return NOT_POSSIBLE;
        history.push(now);
        return now.advance(invoice);
    }

    /** A client pays for an invoice. */
    public int pay(int invoice, int cents) {
        int error = now.errorOfPayment(invoice, cents);
        if (error != NO_ERROR) return error;
        history.push(now);
        return now.collect(invoice, cents);
    }

    /** Gives an invoice up. */
    public int giveUp(int invoice) {
        if (!now.invoices.has(invoice)) return UNKNOWN;
        if (!now.canGiveUp(invoice)) return NOT_POSSIBLE;
        history.push(now);
        return now.lose(invoice);
    }

    /** Does the payments of the text, all of them or none. */
    public int readPayments() {
        int fault = text.read();
        if (fault != Text.NO_FAULT) return FIRST_FAULT - fault;
        before.copyFrom(now);
        int settled = 0;
        for (int payment = 0; payment < text.payments; payment++) {
            int invoice = text.invoiceOf(payment);
            int cents = text.centsOf(payment);
            int error = now.errorOfPayment(invoice, cents);
            if (error != NO_ERROR) {
                now.copyFrom(before);
                refusedPayment = payment;
                refusedError = error;
                return NOT_POSSIBLE;
            }
            if (now.collect(invoice, cents) == 0) settled++;
        }
        history.push(before);
        return settled;
    }

    /** Tells of the latest refusal of readPayments(). */
    public int refusal(int what) {
        if (what < 0 || what > 1) return BAD_VALUE;
        if (refusedError == NO_ERROR) return NONE;
        return what == 0 ? refusedPayment : refusedError;
    }

    /** Lets days pass. */
    public int pass(int days) {
        if (days < 1 || days > LONGEST_PASS) return BAD_VALUE;
        if (now.day + days > LAST_DAY) return NOT_POSSIBLE;
        history.push(now);
        now.day += days;
        return now.day;
    }

    // ---- texts

    /** Types a character behind the text. */
    public int type(char character) {
        return text.append(character);
    }

    /** Empties the text. */
    public int clearText() {
        int length = text.length;
        text.length = 0;
        return length;
    }

    // ---- history

    /** Removes and restores the latest state of the history. */
    public int undo() {
        if (history.size == 0) return NONE;
        history.popInto(now);
        return history.size;
    }

    /** Takes a snapshot of the state. */
    public int keep() {
        snapshot.copyFrom(now);
        kept = true;
        return now.day;
    }

    /** Restores the state of the snapshot. */
    public int restore() {
        if (!kept) return NONE;
        history.push(now);
        now.copyFrom(snapshot);
        return now.day;
    }

    // ---- what is told

    /** Tells a rate. */
    public float rate(int which) {
        return which < 0 || which >= RATES ? noNumber() : now.rates[which];
    }

    /** Tells a number, as set by setNumber(). */
    public int number(int which) {
        return which < 0 || which >= NUMBERS ? UNKNOWN : now.numbers[which];
    }

    /** Tells of a member. */
    public int member(int member, int what) {
        Members members = now.members;
        if (!members.has(member)) return UNKNOWN;
        switch (what) {
            case 0: return members.weight[member];
            case 1: return members.dues[member];
            case 2: return members.purse[member] + MONEY_SHIFT;
            case 3: return now.invoices.countOfMember(member);
            case 4: return now.invoices.countOfMemberAhead(member);
            case 5: return members.borne[member] + MONEY_SHIFT;
            default: return BAD_VALUE;
        }
    }

    /** Tells of a client. */
    public int client(int client, int what) {
        Clients clients = now.clients;
        if (!clients.has(client)) return UNKNOWN;
        switch (what) {
            case 0: return clients.settled[client];
            case 1: return clients.lost[client];
            case 2: return clients.daysLate[client];
            case 3: return now.invoices.countOfClientUnsettled(client);
            default: return BAD_VALUE;
        }
    }

    /** Tells the risk of a client. */
    public float risk(int client) {
        return now.clients.riskOf(client);
    }

    /** Tells the lateness of a client. */
    public float lateness(int client) {
        return now.clients.latenessOf(client);
    }

    /** Tells of an invoice. */
    public int invoice(int invoice, int what) {
        Invoices invoices = now.invoices;
        if (!invoices.has(invoice)) return UNKNOWN;
        switch (what) {
            case 0: return invoices.member[invoice];
            case 1: return invoices.client[invoice];
            case 2: return invoices.amount[invoice];
            case 3: return invoices.due[invoice];
            case 4: return invoices.state[invoice];
            case 5: return invoices.paid[invoice];
            case 6: return invoices.advance[invoice];
            case 7: return now.ageOf(invoice) + AGE_SHIFT;
            case 8: return now.offerAfter(invoice, 0);
            case 9: return now.canPayAhead(invoice) ? 1 : 0;
            case 10: return now.canGiveUp(invoice) ? 1 : 0;
            default: return BAD_VALUE;
        }
    }

    /** Tells the rate of an invoice some days later. */
    public float rateIn(int invoice, int days) {
        return days < 0 || days > FARTHEST ? noNumber() : now.rateAfter(invoice, days);
    }

    /** Tells the worth of an invoice. */
    public float worth(int invoice) {
        return now.worthOf(invoice);
    }

    /** Tells the invoices that can be paid ahead, the one with the greatest worth first. */
    public int best(int rank) {
        if (rank < 0) return BAD_VALUE;
        ranking.size = 0;
        for (int i = 0; i < now.invoices.size; i++) {
            if (now.canPayAhead(i)) ranking.insert(i, now.worthOf(i));
        }
        return rank < ranking.size ? ranking.invoiceAt(rank) : NONE;
    }

    /** Tells in how many days the offer for an invoice is 0. */
    public int worthlessIn(int invoice) {
        if (!now.invoices.has(invoice)) return UNKNOWN;
        for (int days = 0; days <= FARTHEST; days++) {
            if (now.offerAfter(invoice, days) == 0) return days;
        }
        return NONE;
    }

    /** Tells the share of all dues that is out. */
    public float exposure() {
        int dues = now.members.allDues();
        return dues == 0 ? noNumber() : (float) now.invoices.advancesOut() / (float) dues;
    }

    /** Tells a number of the whole fund. */
    public int count(int what) {
        switch (what) {
            case 0: return now.day;
            case 1: return now.balance + MONEY_SHIFT;
            case 2: return now.members.allDues();
            case 3: return now.reserveCents();
            case 4: return now.members.size;
            case 5: return now.invoices.size;
            case 6: return now.invoices.countOfState(OPEN);
            case 7: return now.invoices.countOfState(AHEAD);
            case 8: return now.invoices.countOfState(SETTLED);
            case 9: return now.invoices.countOfState(LOST);
            case 10: return now.advanced;
            case 11: return now.collected;
            case 12: return now.passedOn;
            case 13: return now.shared;
            case 14: return history.size;
            case 15: return text.length;
            default: return BAD_VALUE;
        }
    }

    /** The NaN that the document tells for a wrong argument; the compiler works it out. */
    private static float noNumber() {
        return 0.0f / 0.0f;
    }

    /** The float with the given bits, which are those of a float from 0.0f to 1.0f. */
    private static float floatOf(int bits) {
        int exponent = bits >>> 23;
        int fraction = bits & 0x7FFFFF;
        // The smallest floats have no hidden one in front, and the scale of exponent 1.
        int scale = exponent == 0 ? 1 : exponent;
        float value = (float) (exponent == 0 ? fraction : fraction | 0x800000);
        // Each half is exact: the bits of the result stand where they stood in the argument.
        for (int i = scale; i < 150; i++) value = value * 0.5f;
        return value;
    }

    private static void copyRow(int[] from, int[] to) {
        for (int i = 0; i < from.length && i < to.length; i++) to[i] = from[i];
    }

    /** The members; each has one place in all rows. */
    private static final class Members {
        final int[] weight = new int[MOST_MEMBERS];
        final int[] dues = new int[MOST_MEMBERS];
        final int[] purse = new int[MOST_MEMBERS];
        final int[] borne = new int[MOST_MEMBERS];
        int size;

        boolean has(int member) {
            return member >= 0 && member < size && member < MOST_MEMBERS;
        }

        int append(int itsWeight) {
            if (size < 0 || size >= MOST_MEMBERS) return FULL;
            weight[size] = itsWeight;
            dues[size] = 0;
            purse[size] = 0;
            borne[size] = 0;
            size++;
            return size - 1;
        }

        void intoPurse(int member, int cents) {
            if (has(member)) purse[member] += cents;
        }

        void bear(int member, int cents) {
            if (!has(member)) return;
            purse[member] -= cents;
            borne[member] += cents;
        }

        int allDues() {
            int sum = 0;
            for (int i = 0; i < MOST_MEMBERS; i++) {
                if (has(i)) sum += dues[i];
            }
            return sum;
        }

        int allWeights() {
            int sum = 0;
            for (int i = 0; i < MOST_MEMBERS; i++) {
                if (has(i)) sum += weight[i];
            }
            return sum;
        }

        void copyFrom(Members other) {
            copyRow(other.weight, weight);
            copyRow(other.dues, dues);
            copyRow(other.purse, purse);
            copyRow(other.borne, borne);
            size = other.size;
        }
    }

    /** The clients; each has one place in all rows. */
    private static final class Clients {
        final int[] settled = new int[MOST_CLIENTS];
        final int[] lost = new int[MOST_CLIENTS];
        final int[] daysLate = new int[MOST_CLIENTS];

        boolean has(int client) {
            return client >= 0 && client < MOST_CLIENTS;
        }

        float riskOf(int client) {
            if (!has(client)) return noNumber();
            return (float) (lost[client] + 1) / (float) (settled[client] + lost[client] + 2);
        }

        float latenessOf(int client) {
            if (!has(client)) return noNumber();
            if (settled[client] == 0) return 0.0f;
            return (float) daysLate[client] / (float) settled[client];
        }

        void addSettled(int client, int days) {
            if (!has(client)) return;
            settled[client]++;
            daysLate[client] += days;
        }

        void addLost(int client) {
            if (has(client)) lost[client]++;
        }

        void copyFrom(Clients other) {
            copyRow(other.settled, settled);
            copyRow(other.lost, lost);
            copyRow(other.daysLate, daysLate);
        }
    }

    /** The invoices; each has one place in all rows. */
    private static final class Invoices {
        final int[] member = new int[MOST_INVOICES];
        final int[] client = new int[MOST_INVOICES];
        final int[] amount = new int[MOST_INVOICES];
        final int[] due = new int[MOST_INVOICES];
        final int[] state = new int[MOST_INVOICES];
        final int[] paid = new int[MOST_INVOICES];
        final int[] advance = new int[MOST_INVOICES];
        int size;

        boolean has(int invoice) {
            return invoice >= 0 && invoice < size && invoice < MOST_INVOICES;
        }

        int append(int itsMember, int itsClient, int itsAmount, int itsDue) {
            if (size < 0 || size >= MOST_INVOICES) return FULL;
            member[size] = itsMember;
            client[size] = itsClient;
            amount[size] = itsAmount;
            due[size] = itsDue;
            state[size] = OPEN;
            paid[size] = 0;
            advance[size] = 0;
            size++;
            return size - 1;
        }

        boolean isUnsettled(int invoice) {
            return has(invoice) && (state[invoice] == OPEN || state[invoice] == AHEAD);
        }

        int countOfMember(int itsMember) {
            int found = 0;
            for (int i = 0; i < MOST_INVOICES; i++) {
                if (has(i) && member[i] == itsMember) found++;
            }
            return found;
        }

        int countOfMemberAhead(int itsMember) {
            int found = 0;
            for (int i = 0; i < MOST_INVOICES; i++) {
                if (has(i) && member[i] == itsMember && state[i] == AHEAD) found++;
            }
            return found;
        }

        int countOfClientUnsettled(int itsClient) {
            int found = 0;
            for (int i = 0; i < MOST_INVOICES; i++) {
                if (isUnsettled(i) && client[i] == itsClient) found++;
            }
            return found;
        }

        int countOfState(int itsState) {
            int found = 0;
            for (int i = 0; i < MOST_INVOICES; i++) {
                if (has(i) && state[i] == itsState) found++;
            }
            return found;
        }

        int advancesOut() {
            int sum = 0;
            for (int i = 0; i < MOST_INVOICES; i++) {
                if (has(i) && state[i] == AHEAD) sum += advance[i];
            }
            return sum;
        }

        void copyFrom(Invoices other) {
            copyRow(other.member, member);
            copyRow(other.client, client);
            copyRow(other.amount, amount);
            copyRow(other.due, due);
            copyRow(other.state, state);
            copyRow(other.paid, paid);
            copyRow(other.advance, advance);
            size = other.size;
        }
    }

    /** A state: everything but the text, the history, the snapshot and the latest refusal. */
    private static final class Book {
        final Members members = new Members();
        final Clients clients = new Clients();
        final Invoices invoices = new Invoices();
        final float[] rates = new float[RATES];
        final int[] numbers = new int[NUMBERS];
        int day;
        int balance;
        int advanced;
        int collected;
        int passedOn;
        int shared;

        Book() {
            rates[BASE] = 0.9f;
            rates[DAY_LOSS] = 0.005f;
            rates[FEE] = 0.1f;
            numbers[WAIT] = 14;
            numbers[RESERVE] = 20;
            numbers[PATIENCE] = 120;
        }

        int reserveCents() {
            return (int) ((long) members.allDues() * numbers[RESERVE] / 100);
        }

        int ageOf(int invoice) {
            return invoices.has(invoice) ? day - invoices.due[invoice] : 0;
        }

        /** The days by which an invoice will be late some days from now on. */
        int lateAfter(int invoice, int days) {
            int age = ageOf(invoice) + days;
            return age > 0 ? age : 0;
        }

        float rateAfter(int invoice, int days) {
            if (!invoices.has(invoice)) return noNumber();
            float falling = rates[BASE] - rates[DAY_LOSS] * (float) lateAfter(invoice, days);
            float held = falling > 0.0f ? falling : 0.0f;
            return held * (1.0f - clients.riskOf(invoices.client[invoice]));
        }

        int offerAfter(int invoice, int days) {
            if (!invoices.has(invoice)) return 0;
            return (int) ((float) invoices.amount[invoice] * rateAfter(invoice, days));
        }

        float worthOf(int invoice) {
            if (!invoices.has(invoice)) return noNumber();
            int offer = offerAfter(invoice, 0);
            float risk = clients.riskOf(invoices.client[invoice]);
            float gain = (float) (invoices.amount[invoice] - offer) * (1.0f - risk);
            return gain - (float) offer * risk;
        }

        boolean canPayAhead(int invoice) {
            if (!invoices.has(invoice)) return false;
            if (invoices.state[invoice] != OPEN || invoices.paid[invoice] != 0) return false;
            if (ageOf(invoice) < numbers[WAIT]) return false;
            int offer = offerAfter(invoice, 0);
            return offer > 0 && balance - offer >= reserveCents();
        }

        boolean canGiveUp(int invoice) {
            return invoices.isUnsettled(invoice) && ageOf(invoice) >= numbers[PATIENCE];
        }

        int advance(int invoice) {
            if (!invoices.has(invoice)) return UNKNOWN;
            int offer = offerAfter(invoice, 0);
            invoices.state[invoice] = AHEAD;
            invoices.advance[invoice] = offer;
            members.intoPurse(invoices.member[invoice], offer);
            balance -= offer;
            advanced += offer;
            return offer;
        }

        /** What pay() would return of UNKNOWN, NOT_POSSIBLE and BAD_VALUE, or NO_ERROR. */
        int errorOfPayment(int invoice, int cents) {
            if (!invoices.has(invoice)) return UNKNOWN;
            if (!invoices.isUnsettled(invoice)) return NOT_POSSIBLE;
            int left = invoices.amount[invoice] - invoices.paid[invoice];
            return cents < 1 || cents > left ? BAD_VALUE : NO_ERROR;
        }

        /** Takes a payment without an error; tells what is left of the amount. */
        int collect(int invoice, int cents) {
            if (!invoices.has(invoice)) return UNKNOWN;
            invoices.paid[invoice] += cents;
            collected += cents;
            if (invoices.state[invoice] == AHEAD) {
                balance += cents;
            } else {
                members.intoPurse(invoices.member[invoice], cents);
            }
            int left = invoices.amount[invoice] - invoices.paid[invoice];
            if (left == 0) settle(invoice);
            return left;
        }

        void settle(int invoice) {
            if (!invoices.has(invoice)) return;
            if (invoices.state[invoice] == AHEAD) passOn(invoice);
            invoices.state[invoice] = SETTLED;
            clients.addSettled(invoices.client[invoice], lateAfter(invoice, 0));
        }

        /** Pays the member what an invoice has brought behind its advance and the fee. */
        void passOn(int invoice) {
            if (!invoices.has(invoice)) return;
            int fee = (int) ((float) invoices.amount[invoice] * rates[FEE]);
            int rest = invoices.amount[invoice] - invoices.advance[invoice] - fee;
            if (rest <= 0) return;
            balance -= rest;
            passedOn += rest;
            members.intoPurse(invoices.member[invoice], rest);
        }

        /** Gives an invoice up; tells the loss that is shared. */
        int lose(int invoice) {
            if (!invoices.has(invoice)) return UNKNOWN;
            boolean wasAhead = invoices.state[invoice] == AHEAD;
            invoices.state[invoice] = LOST;
            clients.addLost(invoices.client[invoice]);
            int loss = invoices.advance[invoice] - invoices.paid[invoice];
            if (!wasAhead || loss <= 0) return 0;
            share(loss);
            return loss;
        }

        void share(int loss) {
            int weights = members.allWeights();
            if (weights <= 0) return;
            int left = loss;
            for (int i = 0; i < MOST_MEMBERS; i++) {
                if (!members.has(i)) break;
                int part = (int) ((float) loss * (float) members.weight[i] / (float) weights);
                members.bear(i, part);
                left -= part;
            }
            // The parts are rounded floats, so that together they may be more than the loss.
            int cent = left < 0 ? -1 : 1;
            int cents = left < 0 ? -left : left;
            int next = 0;
            for (int given = 0; given < cents; given++) {
                members.bear(next, cent);
                next = members.has(next + 1) ? next + 1 : 0;
            }
            balance += loss;
            shared += loss;
        }

        void copyFrom(Book other) {
            members.copyFrom(other.members);
            clients.copyFrom(other.clients);
            invoices.copyFrom(other.invoices);
            for (int i = 0; i < RATES; i++) rates[i] = other.rates[i];
            copyRow(other.numbers, numbers);
            day = other.day;
            balance = other.balance;
            advanced = other.advanced;
            collected = other.collected;
            passedOn = other.passedOn;
            shared = other.shared;
        }
    }

    /** The latest states, in a ring: the oldest one gives its place to the next one. */
    private static final class History {
        final Book[] states = new Book[MOST_STATES];
        int next;
        int size;

        History() {
            for (int i = 0; i < MOST_STATES; i++) states[i] = new Book();
        }

        void push(Book state) {
            copy(state, stateAt(next));
            next = next + 1 < MOST_STATES ? next + 1 : 0;
            if (size < MOST_STATES) size++;
        }

        void popInto(Book state) {
            if (size == 0) return;
            next = next > 0 ? next - 1 : MOST_STATES - 1;
            size--;
            copy(stateAt(next), state);
        }

        private Book stateAt(int place) {
            return place < 0 || place >= MOST_STATES ? null : states[place];
        }

        private static void copy(Book from, Book to) {
            if (from != null && to != null) to.copyFrom(from);
        }
    }

    /** The text, and the payments that were read from it. */
    private static final class Text {
        static final int NO_FAULT = -1;

        // What may stand next in the text.
        private static final int NOTHING = -1;
        private static final int INVOICE = 0;
        private static final int DIGIT_OR_EQUALS = 1;
        private static final int EQUALS = 2;
        private static final int AMOUNT = 3;
        private static final int BEHIND_LAST_DIGIT = 10;

        final char[] signs = new char[MOST_SIGNS];
        final int[] invoices = new int[MOST_SIGNS];
        final int[] cents = new int[MOST_SIGNS];
        int length;
        int payments;

        /** Tells the length then, or FULL. */
        int append(char sign) {
            if (length < 0 || length >= MOST_SIGNS) return FULL;
            signs[length] = sign;
            length++;
            return length;
        }

        int invoiceOf(int payment) {
            return payment < 0 || payment >= MOST_SIGNS ? UNKNOWN : invoices[payment];
        }

        int centsOf(int payment) {
            return payment < 0 || payment >= MOST_SIGNS ? 0 : cents[payment];
        }

        /** Reads the payments; tells the fault of the text, or NO_FAULT. */
        int read() {
            payments = 0;
            int place = INVOICE;
            for (int i = 0; i < length && i < MOST_SIGNS; i++) {
                place = placeBehind(place, signs[i]);
                if (place == NOTHING) return i;
            }
            if (place <= AMOUNT) return length;
            readNumbers();
            return NO_FAULT;
        }

        /** What may stand behind the sign, or NOTHING if it is not allowed at its place. */
        private static int placeBehind(int place, char sign) {
            boolean digit = sign >= '0' && sign <= '9';
            switch (place) {
                case INVOICE:
                    if (sign == '0') return EQUALS;
                    return digit ? DIGIT_OR_EQUALS : NOTHING;
                case DIGIT_OR_EQUALS:
                    if (sign == '=') return AMOUNT;
                    return digit ? EQUALS : NOTHING;
                case EQUALS:
                    return sign == '=' ? AMOUNT : NOTHING;
                case AMOUNT:
                    return digit && sign != '0' ? AMOUNT + 1 : NOTHING;
                default:
                    // Each digit of an amount leads one place on, up to that behind the last one.
                    if (sign == ',') return INVOICE;
                    return digit && place < BEHIND_LAST_DIGIT ? place + 1 : NOTHING;
            }
        }

        /** Reads the numbers of a text without a fault. */
        private void readNumbers() {
            int value = 0;
            int payment = 0;
            for (int i = 0; i < length && i < MOST_SIGNS; i++) {
                char sign = signs[i];
                if (sign == '=') {
                    invoices[payment] = value;
                    value = 0;
                } else if (sign == ',') {
                    payment = payment + 1 < MOST_SIGNS ? payment + 1 : payment;
                    value = 0;
                } else {
                    value = value * 10 + (sign - '0');
                    cents[payment] = value;
                }
            }
            payments = payment + 1;
        }
    }

    /** Invoices by their worth, the greatest first, of several with the same the first inserted. */
    private static final class Ranking {
        final int[] invoices = new int[MOST_INVOICES];
        final float[] worths = new float[MOST_INVOICES];
        int size;

        void insert(int invoice, float worth) {
            if (size < 0 || size >= MOST_INVOICES) return;
            int place = size;
            while (place > 0 && worths[place - 1] < worth) {
                invoices[place] = invoices[place - 1];
                worths[place] = worths[place - 1];
                place--;
            }
            invoices[place] = invoice;
            worths[place] = worth;
            size++;
        }

        int invoiceAt(int rank) {
            return rank < 0 || rank >= MOST_INVOICES ? NONE : invoices[rank];
        }
    }
}
