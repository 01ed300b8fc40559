/**
 * An hour-by-hour simulator of a bureau that lends hours of silence to noisy streets.
 *
 * <p>../shared/DOC.md tells what each call promises. A new simulator is in the state that FIRST_TEXT describes.
 */
public final class SilenceBureau {
    public static final int NONE = -1;
    public static final int PLANNED = 0;
    public static final int RUNNING = 1;
    public static final int ENDED = 2;
    public static final int RETURNED = 3;
    public static final int OVERDUE = 4;
    public static final int CANCELLED = 5;

    private static final int LAST_CLOCK = 9999;
    private static final int HORIZON = 48;
    private static final int MOST_STREETS = 8;
    private static final int MOST_BORROWERS = 12;
    private static final int MOST_LOANS = 30;
    private static final int MOST_PERMITS = 10;
    private static final int LONGEST_LOAN = 6;
    private static final int LONGEST_PERMIT = 12;
    private static final int MOST_HOURS = 99;
    private static final int MOST_FORECAST_HOURS = 200;
    private static final int MOST_PAID = 999;
    private static final int MOST_ILL = 9;
    private static final int LONGEST_NAME = 6;
    private static final int INPUT_SIZE = 700;
    private static final int BYTES_PER_APPEND = 20;
    private static final int SCHEDULE_HOURS = 24;
    private static final int OUTPUT_SIZE = 64;
    private static final int SLOTS = 2;

    private static final String FIRST_TEXT =
            "bureau 2 5; street elm 60 20; street oak 85 50; borrower ann elm 3 40; borrower bob oak 7 90; borrower cid oak 2 50; permit oak 10 2; lend ann 4 2; lend bob 6 3; hours 5";

    private final State now;
    // A text with an error must alter nothing, so every text is read into a state of its own first.
    private final State draft = new State();
    private final History history = new History();
    private final State[] slots = new State[SLOTS];
    private final boolean[] slotFilled = new boolean[SLOTS];
    private final byte[] input = new byte[INPUT_SIZE];
    private int inputLength = 0;
    private final byte[] output = new byte[OUTPUT_SIZE];
    private int outputLength = 0;
    private int lastErrorKind = 0;
    private int lastErrorOffset = NONE;

    public SilenceBureau() {
        State first = new State();
        Parser parser = new Parser(bytesOf(FIRST_TEXT), FIRST_TEXT.length(), first);
        parser.parse();
        now = first;
        for (int slot = 0; slot < SLOTS; slot++) {
            slots[slot] = new State();
        }
    }

    // ---- input

    public int append(int a, int b, int c, int d, int e) throws IllegalStateException {
        if (inputLength + BYTES_PER_APPEND > INPUT_SIZE) {
            throw new IllegalStateException("the input buffer is full");
        }
        appendWord(a);
        appendWord(b);
        appendWord(c);
        appendWord(d);
        appendWord(e);
        return inputLength;
    }

    public int load(int length) throws IndexOutOfBoundsException, IllegalArgumentException {
        if (length < 0 || length > inputLength) {
            throw new IndexOutOfBoundsException("length is out of range");
        }
        draft.clear();
        Parser parser = new Parser(input, length, draft);
        parser.parse();
        inputLength = 0;
        lastErrorKind = parser.errorKind;
        lastErrorOffset = parser.errorOffset;
        if (lastErrorKind != 0) {
            throw new IllegalArgumentException("the text has an error");
        }
        now.copyFrom(draft);
        history.forget();
        for (int slot = 0; slot < SLOTS; slot++) {
            slotFilled[slot] = false;
        }
        return now.loanCount;
    }

    public int errorKind() {
        return lastErrorKind;
    }

    public int errorOffset() {
        return lastErrorOffset;
    }

    // ---- the bureau

    public int clock() {
        return now.clock;
    }

    public boolean isNight() {
        return isNightHour(now.clock);
    }

    public int gracePeriod() {
        return now.grace;
    }

    public int lateFee() {
        return now.fee;
    }

    public int streetCount() {
        return now.streetCount;
    }

    public int borrowerCount() {
        return now.borrowerCount;
    }

    public int loanCount() {
        return now.loanCount;
    }

    public int permitCount() {
        return now.permitCount;
    }

    public int loansWith(int status) throws IllegalArgumentException {
        if (status < PLANNED || status > CANCELLED) {
            throw new IllegalArgumentException("no such status");
        }
        return now.countLoans(status);
    }

    public int undoCount() {
        return history.count;
    }

    // ---- streets

    public int noiseNow(int street) throws IndexOutOfBoundsException {
        needStreet(street);
        return now.noiseIn(street, now.clock);
    }

    public int noiseAt(int street, int hour) throws IndexOutOfBoundsException, IllegalArgumentException {
        needStreet(street);
        needHour(hour);
        return now.noiseIn(street, hour);
    }

    public int noiseTotal(int street) throws IndexOutOfBoundsException {
        needStreet(street);
        return now.streets[street].noiseTotal;
    }

    public int quietHours(int street) throws IndexOutOfBoundsException {
        needStreet(street);
        return now.streets[street].quietHours;
    }

    public int loudestStreet() {
        int loudest = NONE;
        for (int s = 0; s < now.streetCount; s++) {
            if (loudest == NONE || now.streets[s].noiseTotal > now.streets[loudest].noiseTotal) {
                loudest = s;
            }
        }
        return loudest;
    }

    // ---- borrowers

    public int streetOf(int borrower) throws IndexOutOfBoundsException {
        needBorrower(borrower);
        return now.borrowers[borrower].street;
    }

    public int illnessOf(int borrower) throws IndexOutOfBoundsException {
        needBorrower(borrower);
        return now.borrowers[borrower].illness;
    }

    public int creditOf(int borrower) throws IndexOutOfBoundsException {
        needBorrower(borrower);
        return now.borrowers[borrower].credit;
    }

    public int overdueLoans(int borrower) throws IndexOutOfBoundsException {
        needBorrower(borrower);
        int overdue = 0;
        for (int i = 0; i < now.loanCount; i++) {
            if (now.loans[i].borrower == borrower && now.loans[i].status == OVERDUE) {
                overdue++;
            }
        }
        return overdue;
    }

    public int mostIll() {
        int worst = NONE;
        for (int b = 0; b < now.borrowerCount; b++) {
            if (worst == NONE || now.borrowers[b].illness > now.borrowers[worst].illness) {
                worst = b;
            }
        }
        return worst;
    }

    // ---- loans and permits

    public int borrowerOf(int loan) throws IndexOutOfBoundsException {
        needLoan(loan);
        return now.loans[loan].borrower;
    }

    public int startOf(int loan) throws IndexOutOfBoundsException {
        needLoan(loan);
        return now.loans[loan].start;
    }

    public int lengthOf(int loan) throws IndexOutOfBoundsException {
        needLoan(loan);
        return now.loans[loan].length;
    }

    public int priceOf(int loan) throws IndexOutOfBoundsException {
        needLoan(loan);
        return now.loans[loan].price;
    }

    public int statusOf(int loan) throws IndexOutOfBoundsException {
        needLoan(loan);
        return now.loans[loan].status;
    }

    public int holderOf(int hour) throws IllegalArgumentException {
        needHour(hour);
        return now.holder(hour);
    }

    public int permitFor(int street, int hour) throws IndexOutOfBoundsException, IllegalArgumentException {
        needStreet(street);
        needHour(hour);
        return now.permitAt(street, hour);
    }

    public int freeHours() {
        return HORIZON - now.lentHours();
    }

    // ---- quotations: nothing changes

    public int quote(int borrower, int length) throws IndexOutOfBoundsException, IllegalArgumentException {
        needBorrower(borrower);
        needLength(length, LONGEST_LOAN);
        return now.price(borrower, length);
    }

    public int refusal(int borrower, int start, int length)
            throws IndexOutOfBoundsException, IllegalArgumentException {
        needBorrower(borrower);
        needSpan(start, length, LONGEST_LOAN);
        return now.reasonAgainst(borrower, start, length);
    }

    public int refusalCause(int borrower, int start, int length)
            throws IndexOutOfBoundsException, IllegalArgumentException {
        needBorrower(borrower);
        needSpan(start, length, LONGEST_LOAN);
        switch (now.reasonAgainst(borrower, start, length)) {
            case 1:
                return now.overdueLoan(borrower);
            case 2:
                return now.firstPermit(borrower, start, length);
            case 3:
                return now.firstObstacle(borrower, start, length);
            case 4:
                return now.price(borrower, length) - now.borrowers[borrower].credit;
            default:
                return NONE;
        }
    }

    public int displacedBy(int borrower, int start, int length)
            throws IndexOutOfBoundsException, IllegalArgumentException {
        needBorrower(borrower);
        needSpan(start, length, LONGEST_LOAN);
        if (now.reasonAgainst(borrower, start, length) != 0) {
            return NONE;
        }
        return now.loansIn(start, length);
    }

    public int earliestStart(int borrower, int length) throws IndexOutOfBoundsException, IllegalArgumentException {
        needBorrower(borrower);
        needLength(length, LONGEST_LOAN);
        return now.earliest(borrower, length, MOST_LOANS);
    }

    public int earliestPeacefulStart(int borrower, int length)
            throws IndexOutOfBoundsException, IllegalArgumentException {
        needBorrower(borrower);
        needLength(length, LONGEST_LOAN);
        return now.earliest(borrower, length, 0);
    }

    public int illnessAfter(int borrower, int hours) throws IndexOutOfBoundsException, IllegalArgumentException {
        needBorrower(borrower);
        if (hours < 0 || hours > MOST_FORECAST_HOURS) {
            throw new IllegalArgumentException("hours is out of range");
        }
        return now.forecastIllness(borrower, hours);
    }

    // ---- measures

    public double meanNoise(int street) throws IndexOutOfBoundsException {
        needStreet(street);
        if (now.clock == 0) {
            return 0.0;
        }
        return (double) now.streets[street].noiseTotal / (double) now.clock;
    }

    public float lentShare() {
        return (float) now.lentHours() / (float) HORIZON;
    }

    public int ledgerDifference() {
        int difference = now.accountsDifference();
        return (difference < 0 ? -difference : difference) + now.hoursHeldTwice();
    }

    // ---- changes

    public int lend(int borrower, int start, int length)
            throws IndexOutOfBoundsException, IllegalArgumentException, IllegalStateException {
        needBorrower(borrower);
        needSpan(start, length, LONGEST_LOAN);
        if (now.reasonAgainst(borrower, start, length) != 0) {
            throw new IllegalStateException("the bureau refuses the loan");
        }
        history.record(now);
        return now.addLoan(borrower, start, length);
    }

    public int cancel(int loan) throws IndexOutOfBoundsException, IllegalStateException {
        needLoan(loan);
        if (now.loans[loan].status != PLANNED) {
            throw new IllegalStateException("the loan is not planned");
        }
        history.record(now);
        now.cancelLoan(loan);
        return now.borrowers[now.loans[loan].borrower].credit;
    }

    public int whistle(int loan) throws IndexOutOfBoundsException, IllegalStateException {
        needLoan(loan);
        if (!now.loans[loan].canBeReturned()) {
            throw new IllegalStateException("the loan is neither ended nor overdue");
        }
        history.record(now);
        now.loans[loan].status = RETURNED;
        return now.clock - now.loans[loan].end();
    }

    public int grantPermit(int street, int start, int length)
            throws IndexOutOfBoundsException, IllegalArgumentException, IllegalStateException {
        needStreet(street);
        needSpan(start, length, LONGEST_PERMIT);
        if (!now.canPermit(street, start, length)) {
            throw new IllegalStateException("the permit cannot be granted");
        }
        history.record(now);
        return now.addPermit(street, start, length);
    }

    public int revokePermit(int permit) throws IndexOutOfBoundsException, IllegalStateException {
        if (permit < 0 || permit >= now.permitCount) {
            throw new IndexOutOfBoundsException("no such permit");
        }
        if (now.permits[permit].revoked) {
            throw new IllegalStateException("the permit is revoked");
        }
        history.record(now);
        now.permits[permit].revoked = true;
        return now.validPermits();
    }

    public int pay(int borrower, int amount) throws IndexOutOfBoundsException, IllegalArgumentException {
        needBorrower(borrower);
        if (amount < 1 || amount > MOST_PAID) {
            throw new IllegalArgumentException("amount is out of range");
        }
        history.record(now);
        now.borrowers[borrower].credit += amount;
        now.creditsGiven += amount;
        return now.borrowers[borrower].credit;
    }

    public int advance(int hours) throws IllegalArgumentException, IllegalStateException {
        if (hours < 1 || hours > MOST_HOURS) {
            throw new IllegalArgumentException("hours is out of range");
        }
        if (now.clock + hours > LAST_CLOCK) {
            throw new IllegalStateException("the clock would exceed its last value");
        }
        history.record(now);
        return now.passHours(hours);
    }

    public int restore(int slot) throws IndexOutOfBoundsException, IllegalStateException {
        needSlot(slot);
        if (!slotFilled[slot]) {
            throw new IllegalStateException("nothing is saved in the slot");
        }
        history.record(now);
        now.copyFrom(slots[slot]);
        return now.clock;
    }

    // ---- undo and saved states

    public int undo() throws IllegalStateException {
        if (history.count == 0) {
            throw new IllegalStateException("there is no change to undo");
        }
        history.takeBack(now);
        return history.count;
    }

    public int save(int slot) throws IndexOutOfBoundsException {
        needSlot(slot);
        slots[slot].copyFrom(now);
        slotFilled[slot] = true;
        return now.clock;
    }

    // ---- output

    public int writeSchedule() {
        for (int i = 0; i < SCHEDULE_HOURS; i++) {
            int loan = now.holder(now.clock + i);
            output[i] = (byte) (loan == NONE ? '.' : firstLetter(now.borrowers[now.loans[loan].borrower].name));
        }
        outputLength = SCHEDULE_HOURS;
        return outputLength;
    }

    public int writeBorrower(int borrower) throws IndexOutOfBoundsException {
        needBorrower(borrower);
        Borrower written = now.borrowers[borrower];
        StringBuilder text = new StringBuilder();
        addName(text, written.name);
        text.append('@');
        addName(text, now.streets[written.street].name);
        text.append(' ');
        text.append(written.illness);
        text.append(' ');
        text.append(written.credit);
        outputLength = Math.min(text.length(), OUTPUT_SIZE);
        for (int i = 0; i < outputLength; i++) {
            output[i] = (byte) text.charAt(i);
        }
        return outputLength;
    }

    public int outputByte(int index) throws IndexOutOfBoundsException {
        if (index < 0 || index >= outputLength) {
            throw new IndexOutOfBoundsException("no such byte");
        }
        return output[index];
    }

    // ---- what several calls need

    private void needStreet(int street) {
        if (street < 0 || street >= now.streetCount) {
            throw new IndexOutOfBoundsException("no such street");
        }
    }

    private void needBorrower(int borrower) {
        if (borrower < 0 || borrower >= now.borrowerCount) {
            throw new IndexOutOfBoundsException("no such borrower");
        }
    }

    private void needLoan(int loan) {
        if (loan < 0 || loan >= now.loanCount) {
            throw new IndexOutOfBoundsException("no such loan");
        }
    }

    private static void needSlot(int slot) {
        if (slot < 0 || slot >= SLOTS) {
            throw new IndexOutOfBoundsException("no such slot");
        }
    }

    private void needHour(int hour) {
        if (hour < now.clock || hour >= now.clock + HORIZON) {
            throw new IllegalArgumentException("the hour is not in the horizon");
        }
    }

    private static void needLength(int length, int longest) {
        if (length < 1 || length > longest) {
            throw new IllegalArgumentException("length is out of range");
        }
    }

    private void needSpan(int start, int length, int longest) {
        needLength(length, longest);
        // The start stands alone on its side, so that no sum with a caller's number can wrap around.
        if (start < now.clock || start > now.clock + HORIZON - length) {
            throw new IllegalArgumentException("an hour is not in the horizon");
        }
    }

    /** Needs room for four bytes, which the caller has made sure of. */
    private void appendWord(int word) {
        for (int shift = 24; shift >= 0; shift -= 8) {
            input[inputLength] = (byte) (word >>> shift);
            inputLength++;
        }
    }

    private static byte[] bytesOf(String text) {
        byte[] bytes = new byte[text.length()];
        for (int i = 0; i < bytes.length; i++) {
            bytes[i] = (byte) text.charAt(i);
        }
        return bytes;
    }

    private static boolean isNightHour(int hour) {
        int hourOfDay = hour % 24;
        return hourOfDay <= 5 || hourOfDay >= 22;
    }

    // A name is kept as one int, five bits for a letter (a is 1) and the first letter highest:
    // so names are compared by == and copied without an object.

    private static int nameWith(int name, int letter) {
        return name << 5 | letter - 'a' + 1;
    }

    private static void addName(StringBuilder text, int name) {
        for (int shift = 5 * (LONGEST_NAME - 1); shift >= 0; shift -= 5) {
            int letter = name >> shift & 31;
            if (letter != 0) {
                text.append((char) ('a' + letter - 1));
            }
        }
    }

    private static int firstLetter(int name) {
        int rest = name;
        for (int i = 1; i < LONGEST_NAME && rest > 31; i++) {
            rest = rest >> 5;
        }
        return 'a' + rest - 1;
    }

    private static final class Street {
        int name;
        int dayNoise;
        int nightNoise;
        int noiseTotal;
        int quietHours;
        /** The noise of the hour that passes; of no meaning between the hours. */
        int noise;

        void copyFrom(Street other) {
            name = other.name;
            dayNoise = other.dayNoise;
            nightNoise = other.nightNoise;
            noiseTotal = other.noiseTotal;
            quietHours = other.quietHours;
        }
    }

    private static final class Borrower {
        private static final int REST_FOR_HEALTH = 6;
        private static final int STRAIN_FOR_ILLNESS = 12;
        private static final int STRAINING_NOISE = 80;

        int name;
        int street;
        int illness;
        int credit;
        int rest;
        int strain;

        void copyFrom(Borrower other) {
            name = other.name;
            street = other.street;
            illness = other.illness;
            credit = other.credit;
            rest = other.rest;
            strain = other.strain;
        }

        void hear(int noise) {
            if (noise == 0) {
                rest++;
                if (rest == REST_FOR_HEALTH) {
                    rest = 0;
                    illness = Math.max(illness - 1, 0);
                }
            }
            if (noise >= STRAINING_NOISE) {
                strain++;
                if (strain == STRAIN_FOR_ILLNESS) {
                    strain = 0;
                    illness = Math.min(illness + 1, MOST_ILL);
                }
            }
        }
    }

    private static final class Permit {
        int street;
        int start;
        int length;
        boolean revoked;

        void copyFrom(Permit other) {
            street = other.street;
            start = other.start;
            length = other.length;
            revoked = other.revoked;
        }

        boolean covers(int coveredStreet, int hour) {
            return !revoked && street == coveredStreet && start <= hour && hour < start + length;
        }
    }

    private static final class Loan {
        int borrower;
        int start;
        int length;
        int price;
        int status;

        void copyFrom(Loan other) {
            borrower = other.borrower;
            start = other.start;
            length = other.length;
            price = other.price;
            status = other.status;
        }

        int end() {
            return start + length;
        }

        boolean holdsOneOf(int first, int hours) {
            return (status == PLANNED || status == RUNNING) && start < first + hours && first < start + length;
        }

        boolean canBeReturned() {
            return status == ENDED || status == OVERDUE;
        }
    }

    /** What undo() restores. Its lists are filled once, with objects to spare, and a count tells how many are in use. */
    private static final class State {
        private static final int DRUMS = 40;

        int clock;
        int grace;
        int fee;
        int creditsGiven;
        int feesCharged;
        int streetCount;
        int borrowerCount;
        int loanCount;
        int permitCount;
        final Street[] streets = new Street[MOST_STREETS];
        final Borrower[] borrowers = new Borrower[MOST_BORROWERS];
        final Loan[] loans = new Loan[MOST_LOANS];
        final Permit[] permits = new Permit[MOST_PERMITS];

        State() {
            for (int i = 0; i < MOST_STREETS; i++) {
                streets[i] = new Street();
            }
            for (int i = 0; i < MOST_BORROWERS; i++) {
                borrowers[i] = new Borrower();
            }
            for (int i = 0; i < MOST_LOANS; i++) {
                loans[i] = new Loan();
            }
            for (int i = 0; i < MOST_PERMITS; i++) {
                permits[i] = new Permit();
            }
        }

        void clear() {
            clock = 0;
            grace = 0;
            fee = 0;
            creditsGiven = 0;
            feesCharged = 0;
            streetCount = 0;
            borrowerCount = 0;
            loanCount = 0;
            permitCount = 0;
        }

        void copyFrom(State other) {
            clock = other.clock;
            grace = other.grace;
            fee = other.fee;
            creditsGiven = other.creditsGiven;
            feesCharged = other.feesCharged;
            streetCount = other.streetCount;
            borrowerCount = other.borrowerCount;
            loanCount = other.loanCount;
            permitCount = other.permitCount;
            for (int i = 0; i < streetCount; i++) {
                streets[i].copyFrom(other.streets[i]);
            }
            for (int i = 0; i < borrowerCount; i++) {
                borrowers[i].copyFrom(other.borrowers[i]);
            }
            for (int i = 0; i < loanCount; i++) {
                loans[i].copyFrom(other.loans[i]);
            }
            for (int i = 0; i < permitCount; i++) {
                permits[i].copyFrom(other.permits[i]);
            }
        }

        // ---- what the state tells

        int streetNamed(int name) {
            for (int s = 0; s < streetCount; s++) {
                if (streets[s].name == name) {
                    return s;
                }
            }
            return NONE;
        }

        int borrowerNamed(int name) {
            for (int b = 0; b < borrowerCount; b++) {
                if (borrowers[b].name == name) {
                    return b;
                }
            }
            return NONE;
        }

        int streetOfLoan(int loan) {
            return borrowers[loans[loan].borrower].street;
        }

        int countLoans(int status) {
            int found = 0;
            for (int i = 0; i < loanCount; i++) {
                if (loans[i].status == status) {
                    found++;
                }
            }
            return found;
        }

        int holder(int hour) {
            for (int i = 0; i < loanCount; i++) {
                if (loans[i].holdsOneOf(hour, 1)) {
                    return i;
                }
            }
            return NONE;
        }

        int loansIn(int start, int length) {
            int found = 0;
            for (int i = 0; i < loanCount; i++) {
                if (loans[i].holdsOneOf(start, length)) {
                    found++;
                }
            }
            return found;
        }

        int lentHours() {
            int lent = 0;
            for (int i = 0; i < HORIZON; i++) {
                if (holder(clock + i) != NONE) {
                    lent++;
                }
            }
            return lent;
        }

        int permitAt(int street, int hour) {
            for (int i = 0; i < permitCount; i++) {
                if (permits[i].covers(street, hour)) {
                    return i;
                }
            }
            return NONE;
        }

        int validPermits() {
            int valid = 0;
            for (int i = 0; i < permitCount; i++) {
                if (!permits[i].revoked) {
                    valid++;
                }
            }
            return valid;
        }

        int noiseIn(int street, int hour) {
            return street == silentStreet(hour) ? 0 : outdoorNoise(street, hour);
        }

        /** The street that a loan silences in the hour; NONE if no loan holds the hour. */
        int silentStreet(int hour) {
            int loan = holder(hour);
            return loan == NONE ? NONE : streetOfLoan(loan);
        }

        int outdoorNoise(int street, int hour) {
            int noise = isNightHour(hour) ? streets[street].nightNoise : streets[street].dayNoise;
            return permitAt(street, hour) == NONE ? noise : noise + DRUMS;
        }

        int forecastIllness(int borrower, int hours) {
            Borrower patient = new Borrower();
            patient.copyFrom(borrowers[borrower]);
            for (int i = 0; i < hours; i++) {
                patient.hear(noiseIn(patient.street, clock + i));
            }
            return patient.illness;
        }

        /** What the credits are above what they should be. */
        int accountsDifference() {
            int difference = feesCharged - creditsGiven;
            for (int b = 0; b < borrowerCount; b++) {
                difference += borrowers[b].credit;
            }
            for (int i = 0; i < loanCount; i++) {
                if (loans[i].status != CANCELLED) {
                    difference += loans[i].price;
                }
            }
            return difference;
        }

        int hoursHeldTwice() {
            int hours = 0;
            for (int i = 0; i < HORIZON; i++) {
                if (loansIn(clock + i, 1) > 1) {
                    hours++;
                }
            }
            return hours;
        }

        // ---- whether a loan or a permit can be granted

        int price(int borrower, int length) {
            return length * (streets[borrowers[borrower].street].dayNoise / 10 + 1);
        }

        int reasonAgainst(int borrower, int start, int length) {
            if (overdueLoan(borrower) != NONE) {
                return 1;
            }
            if (firstPermit(borrower, start, length) != NONE) {
                return 2;
            }
            if (firstObstacle(borrower, start, length) != NONE) {
                return 3;
            }
            if (borrowers[borrower].credit < price(borrower, length)) {
                return 4;
            }
            return loanCount == MOST_LOANS ? 5 : 0;
        }

        int overdueLoan(int borrower) {
            for (int i = 0; i < loanCount; i++) {
                if (loans[i].borrower == borrower && loans[i].status == OVERDUE) {
                    return i;
                }
            }
            return NONE;
        }

        int firstPermit(int borrower, int start, int length) {
            for (int hour = start; hour < start + length; hour++) {
                int permit = permitAt(borrowers[borrower].street, hour);
                if (permit != NONE) {
                    return permit;
                }
            }
            return NONE;
        }

        int firstObstacle(int borrower, int start, int length) {
            for (int hour = start; hour < start + length; hour++) {
                int loan = holder(hour);
                if (loan != NONE && !canDisplace(borrower, loan)) {
                    return loan;
                }
            }
            return NONE;
        }

        boolean canDisplace(int borrower, int loan) {
            return loans[loan].status == PLANNED
                    && borrowers[loans[loan].borrower].illness < borrowers[borrower].illness;
        }

        int earliest(int borrower, int length, int mostDisplaced) {
            for (int start = clock; start <= clock + HORIZON - length; start++) {
                if (loansIn(start, length) <= mostDisplaced && reasonAgainst(borrower, start, length) == 0) {
                    return start;
                }
            }
            return NONE;
        }

        boolean canPermit(int street, int start, int length) {
            for (int i = 0; i < loanCount; i++) {
                if (loans[i].holdsOneOf(start, length) && streetOfLoan(i) == street) {
                    return false;
                }
            }
            return permitCount < MOST_PERMITS;
        }

        // ---- changes, each of which the caller has found to be allowed

        void addStreet(int name, int dayNoise, int nightNoise) {
            Street added = streets[streetCount];
            added.name = name;
            added.dayNoise = dayNoise;
            added.nightNoise = nightNoise;
            added.noiseTotal = 0;
            added.quietHours = 0;
            streetCount++;
        }

        void addBorrower(int name, int street, int illness, int credit) {
            Borrower added = borrowers[borrowerCount];
            added.name = name;
            added.street = street;
            added.illness = illness;
            added.credit = credit;
            added.rest = 0;
            added.strain = 0;
            borrowerCount++;
            creditsGiven += credit;
        }

        int addLoan(int borrower, int start, int length) {
            for (int i = 0; i < loanCount; i++) {
                if (loans[i].holdsOneOf(start, length)) {
                    cancelLoan(i);
                }
            }
            Loan added = loans[loanCount];
            added.borrower = borrower;
            added.start = start;
            added.length = length;
            added.price = price(borrower, length);
            added.status = PLANNED;
            borrowers[borrower].credit -= added.price;
            loanCount++;
            return loanCount - 1;
        }

        void cancelLoan(int loan) {
            loans[loan].status = CANCELLED;
            borrowers[loans[loan].borrower].credit += loans[loan].price;
        }

        int addPermit(int street, int start, int length) {
            Permit added = permits[permitCount];
            added.street = street;
            added.start = start;
            added.length = length;
            added.revoked = false;
            permitCount++;
            return permitCount - 1;
        }

        /** Returns the number of loans that became overdue. */
        int passHours(int hours) {
            int overdue = 0;
            for (int i = 0; i < hours; i++) {
                beginLoans();
                soundStreets();
                for (int b = 0; b < borrowerCount; b++) {
                    borrowers[b].hear(streets[borrowers[b].street].noise);
                }
                clock++;
                endLoans();
                overdue += chargeLateLoans();
            }
            return overdue;
        }

        private void beginLoans() {
            for (int i = 0; i < loanCount; i++) {
                if (loans[i].status == PLANNED && loans[i].start == clock) {
                    loans[i].status = RUNNING;
                }
            }
        }

        private void soundStreets() {
            int silent = silentStreet(clock);
            for (int s = 0; s < streetCount; s++) {
                streets[s].noise = s == silent ? 0 : outdoorNoise(s, clock);
                streets[s].noiseTotal += streets[s].noise;
                if (s == silent) {
                    streets[s].quietHours++;
                }
            }
        }

        private void endLoans() {
            for (int i = 0; i < loanCount; i++) {
                if (loans[i].status == RUNNING && loans[i].end() == clock) {
                    loans[i].status = ENDED;
                }
            }
        }

        private int chargeLateLoans() {
            int late = 0;
            for (int i = 0; i < loanCount; i++) {
                if (loans[i].status == ENDED && loans[i].end() + grace == clock) {
                    loans[i].status = OVERDUE;
                    borrowers[loans[i].borrower].credit -= fee;
                    feesCharged += fee;
                    late++;
                }
            }
            return late;
        }
    }

    /** The states before the last recorded changes, in a ring: the oldest gives way to the newest. */
    private static final class History {
        private static final int SIZE = 10;

        private final State[] before = new State[SIZE];
        private int next = 0;
        int count = 0;

        History() {
            for (int i = 0; i < SIZE; i++) {
                before[i] = new State();
            }
        }

        void record(State state) {
            before[next].copyFrom(state);
            next = (next + 1) % SIZE;
            count = Math.min(count + 1, SIZE);
        }

        /** Needs a count above 0, which the caller has made sure of. */
        void takeBack(State state) {
            next = (next + SIZE - 1) % SIZE;
            state.copyFrom(before[next]);
            count--;
        }

        void forget() {
            count = 0;
        }
    }

    /**
     * Reads a description into an empty state. The tokens are read and judged one by one, so the first error found is
     * the one with the smallest offset; after it no token is read and nothing is executed.
     */
    private static final class Parser {
        private static final int SYNTAX = 1;
        private static final int OUT_OF_RANGE = 2;
        private static final int UNKNOWN_NAME = 3;
        private static final int DUPLICATE_NAME = 4;
        private static final int TOO_MANY = 5;
        private static final int REFUSED = 6;

        private static final int NO_TOKEN = 0;
        private static final int WORD = 1;
        private static final int NUMBER = 2;
        private static final int SEMICOLON = 3;
        private static final int TEXT_END = 4;

        private static final int MOST_DIGITS = 4;

        private final byte[] text;
        private final int length;
        private final State state;
        private int at = 0;
        private int token = NO_TOKEN;
        private int tokenStart = 0;
        int errorKind = 0;
        int errorOffset = NONE;

        Parser(byte[] text, int length, State state) {
            this.text = text;
            this.length = length;
            this.state = state;
        }

        void parse() {
            next();
            if (!isWord("bureau")) {
                fail(SYNTAX);
            }
            state.grace = number(1, 24);
            state.fee = number(0, 99);
            next();
            for (int line = 0; line < length && errorKind == 0 && token != TEXT_END; line++) {
                if (token != SEMICOLON) {
                    fail(SYNTAX);
                }
                next();
                if (isWord("street")) {
                    streetLine();
                } else if (isWord("borrower")) {
                    borrowerLine();
                } else if (isWord("permit")) {
                    permitLine();
                } else if (isWord("lend")) {
                    lendLine();
                } else if (isWord("whistle")) {
                    whistleLine();
                } else if (isWord("hours")) {
                    state.passHours(hoursToPass());
                } else {
                    fail(SYNTAX);
                }
                next();
            }
        }

        private void streetLine() {
            if (state.streetCount == MOST_STREETS) {
                fail(TOO_MANY);
            }
            int name = name();
            if (state.streetNamed(name) != NONE) {
                fail(DUPLICATE_NAME);
            }
            int dayNoise = number(0, 99);
            int nightNoise = number(0, 99);
            if (errorKind == 0) {
                state.addStreet(name, dayNoise, nightNoise);
            }
        }

        private void borrowerLine() {
            if (state.borrowerCount == MOST_BORROWERS) {
                fail(TOO_MANY);
            }
            int name = name();
            if (state.borrowerNamed(name) != NONE) {
                fail(DUPLICATE_NAME);
            }
            int street = knownStreet();
            int illness = number(0, MOST_ILL);
            int credit = number(0, 999);
            if (errorKind == 0) {
                state.addBorrower(name, street, illness, credit);
            }
        }

        private void permitLine() {
            if (state.permitCount == MOST_PERMITS) {
                fail(TOO_MANY);
            }
            int street = knownStreet();
            int start = number(state.clock, state.clock + HORIZON - 1);
            int hours = number(1, Math.min(LONGEST_PERMIT, state.clock + HORIZON - start));
            if (errorKind == 0 && !state.canPermit(street, start, hours)) {
                fail(REFUSED);
            }
            if (errorKind == 0) {
                state.addPermit(street, start, hours);
            }
        }

        private void lendLine() {
            int borrower = state.borrowerNamed(name());
            if (borrower == NONE) {
                fail(UNKNOWN_NAME);
            }
            int start = number(state.clock, state.clock + HORIZON - 1);
            int hours = number(1, Math.min(LONGEST_LOAN, state.clock + HORIZON - start));
            if (errorKind == 0 && state.reasonAgainst(borrower, start, hours) != 0) {
                fail(REFUSED);
            }
            if (errorKind == 0) {
                state.addLoan(borrower, start, hours);
            }
        }

        private void whistleLine() {
            int loan = number(0, state.loanCount - 1);
            if (errorKind == 0 && !state.loans[loan].canBeReturned()) {
                fail(REFUSED);
            }
            if (errorKind == 0) {
                state.loans[loan].status = RETURNED;
            }
        }

        /** Answers 0, which lets no hour pass, after an error. */
        private int hoursToPass() {
            return number(1, Math.min(MOST_HOURS, LAST_CLOCK - state.clock));
        }

        private int knownStreet() {
            int street = state.streetNamed(name());
            if (street == NONE) {
                fail(UNKNOWN_NAME);
            }
            return street;
        }

        /** Only the first error counts: those that follow from it are passed over. */
        private void fail(int kind) {
            if (errorKind == 0) {
                errorKind = kind;
                errorOffset = tokenStart;
            }
        }

        /** Reads a name; 0, which is no name, after an error. */
        private int name() {
            next();
            if (token != WORD || at - tokenStart > LONGEST_NAME) {
                fail(SYNTAX);
            }
            int name = 0;
            for (int i = tokenStart; i < at && errorKind == 0; i++) {
                name = nameWith(name, text[i]);
            }
            return name;
        }

        /** Reads a number; 0 after an error. */
        private int number(int least, int most) {
            next();
            if (token != NUMBER || at - tokenStart > MOST_DIGITS) {
                fail(SYNTAX);
            }
            int value = 0;
            for (int i = tokenStart; i < at && errorKind == 0; i++) {
                value = 10 * value + text[i] - '0';
            }
            if (value < least || value > most) {
                fail(OUT_OF_RANGE);
            }
            return errorKind == 0 ? value : 0;
        }

        private boolean isWord(String word) {
            if (token != WORD || at - tokenStart != word.length()) {
                return false;
            }
            for (int i = 0; i < word.length(); i++) {
                if (text[tokenStart + i] != word.charAt(i)) {
                    return false;
                }
            }
            return true;
        }

        /** Goes on to the next token; NO_TOKEN is a byte that starts none, or a token that sticks to the one before. */
        private void next() {
            if (errorKind != 0) {
                return;
            }
            boolean mayStick = token == WORD || token == NUMBER;
            int from = at;
            while (at < length && (text[at] == ' ' || text[at] == '\n')) {
                at++;
            }
            tokenStart = at;
            if (at >= length) {
                token = TEXT_END;
                return;
            }
            if (text[at] == ';') {
                at++;
                token = SEMICOLON;
                return;
            }
            boolean letters = isLetter(text[at]);
            while (at < length && (letters ? isLetter(text[at]) : isDigit(text[at]))) {
                at++;
            }
            boolean sticks = mayStick && tokenStart == from;
            token = at == tokenStart || sticks ? NO_TOKEN : letters ? WORD : NUMBER;
        }

        private static boolean isLetter(byte b) {
            return b >= 'a' && b <= 'z';
        }

        private static boolean isDigit(byte b) {
            return b >= '0' && b <= '9';
        }
    }
}
