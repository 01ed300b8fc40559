import java.util.ArrayDeque;
import java.util.ArrayList;
import java.util.List;
import java.util.TreeSet;
import java.util.regex.Matcher;
import java.util.regex.Pattern;

/**
 * The document once more, word by word and without a thought of speed: the whole state is copied for each change, and
 * every quotation is answered by doing on a copy what it asks about. Its methods bear the names of the face.
 */
final class Model {
    private static final class Street {
        String name;
        int day;
        int night;
        int total;
        int quiet;
        int noise;
    }

    private static final class Borrower {
        String name;
        int street;
        int illness;
        int credit;
        int rest;
        int strain;
    }

    private static final class Permit {
        int street;
        int start;
        int length;
        boolean revoked;
    }

    private static final class Loan {
        int borrower;
        int start;
        int length;
        int price;
        int status;
    }

    private static final class World {
        int clock;
        int grace;
        int fee;
        final List<Street> streets = new ArrayList<>();
        final List<Borrower> borrowers = new ArrayList<>();
        final List<Permit> permits = new ArrayList<>();
        final List<Loan> loans = new ArrayList<>();

        World copy() {
            World w = new World();
            w.clock = clock;
            w.grace = grace;
            w.fee = fee;
            for (Street s : streets) {
                w.addStreet(s.name, s.day, s.night);
                w.streets.get(w.streets.size() - 1).total = s.total;
                w.streets.get(w.streets.size() - 1).quiet = s.quiet;
            }
            for (Borrower b : borrowers) {
                w.addBorrower(b.name, b.street, b.illness, b.credit);
                w.borrowers.get(w.borrowers.size() - 1).rest = b.rest;
                w.borrowers.get(w.borrowers.size() - 1).strain = b.strain;
            }
            for (Permit p : permits) {
                w.addPermit(p.street, p.start, p.length);
                w.permits.get(w.permits.size() - 1).revoked = p.revoked;
            }
            for (Loan l : loans) {
                w.putLoan(l.borrower, l.start, l.length, l.price, l.status);
            }
            return w;
        }

        void addStreet(String name, int day, int night) {
            Street s = new Street();
            s.name = name;
            s.day = day;
            s.night = night;
            streets.add(s);
        }

        void addBorrower(String name, int street, int illness, int credit) {
            Borrower b = new Borrower();
            b.name = name;
            b.street = street;
            b.illness = illness;
            b.credit = credit;
            borrowers.add(b);
        }

        void addPermit(int street, int start, int length) {
            Permit p = new Permit();
            p.street = street;
            p.start = start;
            p.length = length;
            permits.add(p);
        }

        void putLoan(int borrower, int start, int length, int price, int status) {
            Loan l = new Loan();
            l.borrower = borrower;
            l.start = start;
            l.length = length;
            l.price = price;
            l.status = status;
            loans.add(l);
        }

        TreeSet<Integer> hoursOf(int start, int length) {
            TreeSet<Integer> hours = new TreeSet<>();
            for (int i = 0; i < length; i++) {
                hours.add(start + i);
            }
            return hours;
        }

        boolean holds(Loan l, int hour) {
            return (l.status == 0 || l.status == 1) && hoursOf(l.start, l.length).contains(hour);
        }

        int holder(int hour) {
            int found = -1;
            for (int i = 0; i < loans.size(); i++) {
                if (holds(loans.get(i), hour)) {
                    Check.same("the model lends an hour once", -1, found);
                    found = i;
                }
            }
            return found;
        }

        int permitFor(int street, int hour) {
            for (int i = 0; i < permits.size(); i++) {
                Permit p = permits.get(i);
                if (p.street == street && !p.revoked && hoursOf(p.start, p.length).contains(hour)) {
                    return i;
                }
            }
            return -1;
        }

        int outdoorNoise(int street, int hour) {
            int ofDay = hour % 24;
            boolean night = ofDay < 6 || ofDay == 22 || ofDay == 23;
            return (night ? streets.get(street).night : streets.get(street).day) + (permitFor(street, hour) < 0 ? 0 : 40);
        }

        int price(int borrower, int length) {
            return length * (streets.get(borrowers.get(borrower).street).day / 10 + 1);
        }

        /** The reason and what causes it. */
        int[] refusal(int borrower, int start, int length) {
            Borrower b = borrowers.get(borrower);
            for (int i = 0; i < loans.size(); i++) {
                if (loans.get(i).status == 4 && loans.get(i).borrower == borrower) {
                    return new int[] {1, i};
                }
            }
            for (int hour : hoursOf(start, length)) {
                if (permitFor(b.street, hour) >= 0) {
                    return new int[] {2, permitFor(b.street, hour)};
                }
            }
            for (int hour : hoursOf(start, length)) {
                int i = holder(hour);
                if (i >= 0 && (loans.get(i).status == 1 || borrowers.get(loans.get(i).borrower).illness >= b.illness)) {
                    return new int[] {3, i};
                }
            }
            if (b.credit < price(borrower, length)) {
                return new int[] {4, price(borrower, length) - b.credit};
            }
            return new int[] {loans.size() == 30 ? 5 : 0, -1};
        }

        void cancel(int loan) {
            loans.get(loan).status = 5;
            borrowers.get(loans.get(loan).borrower).credit += loans.get(loan).price;
        }

        void grant(int borrower, int start, int length) {
            for (int hour : hoursOf(start, length)) {
                if (holder(hour) >= 0) {
                    cancel(holder(hour));
                }
            }
            putLoan(borrower, start, length, price(borrower, length), 0);
            borrowers.get(borrower).credit -= price(borrower, length);
        }

        boolean mayPermit(int street, int start, int length) {
            for (int hour : hoursOf(start, length)) {
                if (holder(hour) >= 0 && borrowers.get(loans.get(holder(hour)).borrower).street == street) {
                    return false;
                }
            }
            return permits.size() < 10;
        }

        int count(int status) {
            int found = 0;
            for (Loan l : loans) {
                found += l.status == status ? 1 : 0;
            }
            return found;
        }

        int passHour() {
            for (Loan l : loans) {
                l.status = l.status == 0 && l.start == clock ? 1 : l.status;
            }
            for (int s = 0; s < streets.size(); s++) {
                Street street = streets.get(s);
                street.noise = outdoorNoise(s, clock);
                for (Loan l : loans) {
                    if (l.status == 1 && borrowers.get(l.borrower).street == s) {
                        street.noise = 0;
                        street.quiet++;
                    }
                }
                street.total += street.noise;
            }
            for (Borrower b : borrowers) {
                int noise = streets.get(b.street).noise;
                b.rest += noise == 0 ? 1 : 0;
                b.strain += noise >= 80 ? 1 : 0;
                if (b.rest == 6) {
                    b.rest = 0;
                    b.illness -= b.illness > 0 ? 1 : 0;
                }
                if (b.strain == 12) {
                    b.strain = 0;
                    b.illness += b.illness < 9 ? 1 : 0;
                }
            }
            clock++;
            int late = 0;
            for (Loan l : loans) {
                l.status = l.status == 1 && l.start + l.length == clock ? 2 : l.status;
            }
            for (Loan l : loans) {
                if (l.status == 2 && l.start + l.length + grace == clock) {
                    l.status = 4;
                    borrowers.get(l.borrower).credit -= fee;
                    late++;
                }
            }
            return late;
        }
    }

    /** What ends a reading: an error of the text, by its kind and its offset. */
    private static final class Fault extends RuntimeException {
        private static final long serialVersionUID = 1;
        final int kind;
        final int offset;

        Fault(int kind, int offset) {
            this.kind = kind;
            this.offset = offset;
        }
    }

    /** Cuts the whole text into tokens first, then reads them; a token that sticks to the one before begins with '?'. */
    private static final class Reader {
        private final String text;
        private final List<String> tokens = new ArrayList<>();
        private final List<Integer> offsets = new ArrayList<>();
        private int next = 0;
        private final World w = new World();

        Reader(String text) {
            this.text = text;
            Matcher m = Pattern.compile("[a-z]+|[0-9]+|;|[ \n]+|[^a-z0-9; \n]").matcher(text);
            boolean sticky = false;
            while (m.find()) {
                String t = m.group();
                boolean solid = t.matches("[a-z]+|[0-9]+");
                if (!t.matches("[ \n]+")) {
                    tokens.add(sticky && solid ? "?" + t : t);
                    offsets.add(m.start());
                }
                sticky = solid;
            }
            tokens.add("");
            offsets.add(text.length());
        }

        private int offset() {
            return offsets.get(next - 1);
        }

        private String take(String form) {
            String t = tokens.get(next);
            next++;
            if (!t.matches(form)) {
                throw new Fault(1, offset());
            }
            return t;
        }

        private int number(int least, int most) {
            int n = Integer.parseInt(take("[0-9]{1,4}"));
            if (n < least || n > most) {
                throw new Fault(2, offset());
            }
            return n;
        }

        private String name() {
            return take("[a-z]{1,6}");
        }

        private int street(String name) {
            for (int i = 0; i < w.streets.size(); i++) {
                if (w.streets.get(i).name.equals(name)) {
                    return i;
                }
            }
            return -1;
        }

        private int borrower(String name) {
            for (int i = 0; i < w.borrowers.size(); i++) {
                if (w.borrowers.get(i).name.equals(name)) {
                    return i;
                }
            }
            return -1;
        }

        private void refuseIf(boolean wrong, int kind) {
            if (wrong) {
                throw new Fault(kind, offset());
            }
        }

        World read() {
            take("bureau");
            w.grace = number(1, 24);
            w.fee = number(0, 99);
            while (!tokens.get(next).isEmpty()) {
                take(";");
                line(take("street|borrower|permit|lend|whistle|hours"));
            }
            return w;
        }

        private void line(String word) {
            switch (word) {
                case "street": {
                    refuseIf(w.streets.size() == 8, 5);
                    String name = name();
                    refuseIf(street(name) >= 0, 4);
                    int day = number(0, 99);
                    w.addStreet(name, day, number(0, 99));
                    break;
                }
                case "borrower": {
                    refuseIf(w.borrowers.size() == 12, 5);
                    String name = name();
                    refuseIf(borrower(name) >= 0, 4);
                    int street = street(name());
                    refuseIf(street < 0, 3);
                    int illness = number(0, 9);
                    w.addBorrower(name, street, illness, number(0, 999));
                    break;
                }
                case "permit": {
                    refuseIf(w.permits.size() == 10, 5);
                    int street = street(name());
                    refuseIf(street < 0, 3);
                    int start = number(w.clock, w.clock + 47);
                    int length = number(1, 12);
                    refuseIf(start + length - 1 > w.clock + 47, 2);
                    refuseIf(!w.mayPermit(street, start, length), 6);
                    w.addPermit(street, start, length);
                    break;
                }
                case "lend": {
                    int borrower = borrower(name());
                    refuseIf(borrower < 0, 3);
                    int start = number(w.clock, w.clock + 47);
                    int length = number(1, 6);
                    refuseIf(start + length - 1 > w.clock + 47, 2);
                    refuseIf(w.refusal(borrower, start, length)[0] != 0, 6);
                    w.grant(borrower, start, length);
                    break;
                }
                case "whistle": {
                    int loan = number(0, 9999);
                    refuseIf(loan >= w.loans.size(), 2);
                    refuseIf(w.loans.get(loan).status != 2 && w.loans.get(loan).status != 4, 6);
                    w.loans.get(loan).status = 3;
                    break;
                }
                default: {
                    int hours = number(1, 99);
                    refuseIf(w.clock + hours > 9999, 2);
                    for (int i = 0; i < hours; i++) {
                        w.passHour();
                    }
                }
            }
        }
    }

    private World w;
    private final ArrayDeque<World> before = new ArrayDeque<>();
    private final World[] slots = new World[2];
    private String input = "";
    private String output = "";
    private int kind = 0;
    private int offset = -1;

    Model() {
        w = new Reader("bureau 2 5; street elm 60 20; street oak 85 50; borrower ann elm 3 40; borrower bob oak 7 90; "
                + "borrower cid oak 2 50; permit oak 10 2; lend ann 4 2; lend bob 6 3; hours 5").read();
    }

    private static void index(boolean holds) {
        if (!holds) {
            throw new IndexOutOfBoundsException();
        }
    }

    private static void argument(boolean holds) {
        if (!holds) {
            throw new IllegalArgumentException();
        }
    }

    private static void state(boolean holds) {
        if (!holds) {
            throw new IllegalStateException();
        }
    }

    private static boolean within(int n, int least, int most) {
        return least <= n && n <= most;
    }

    private void street(int s) {
        index(within(s, 0, w.streets.size() - 1));
    }

    private void borrower(int b) {
        index(within(b, 0, w.borrowers.size() - 1));
    }

    private void loan(int l) {
        index(within(l, 0, w.loans.size() - 1));
    }

    private void hour(int hour) {
        argument(within(hour, w.clock, w.clock + 47));
    }

    private void span(int start, int length, int longest) {
        argument(within(length, 1, longest));
        hour(start);
        hour(start + length - 1);
    }

    private void record() {
        before.addLast(w.copy());
        if (before.size() > 10) {
            before.removeFirst();
        }
    }

    public int append(int a, int b, int c, int d, int e) {
        state(input.length() + 20 <= 700);
        StringBuilder more = new StringBuilder(input);
        for (int word : new int[] {a, b, c, d, e}) {
            for (int i = 3; i >= 0; i--) {
                more.append((char) (word >> 8 * i & 0xff));
            }
        }
        input = more.toString();
        return input.length();
    }

    public int load(int length) {
        index(within(length, 0, input.length()));
        String text = input.substring(0, length);
        input = "";
        try {
            w = new Reader(text).read();
        } catch (Fault f) {
            kind = f.kind;
            offset = f.offset;
            throw new IllegalArgumentException();
        }
        kind = 0;
        offset = -1;
        before.clear();
        slots[0] = null;
        slots[1] = null;
        return w.loans.size();
    }

    public int errorKind() {
        return kind;
    }

    public int errorOffset() {
        return offset;
    }

    public int clock() {
        return w.clock;
    }

    public boolean isNight() {
        int ofDay = w.clock % 24;
        return ofDay <= 5 || ofDay == 22 || ofDay == 23;
    }

    public int gracePeriod() {
        return w.grace;
    }

    public int lateFee() {
        return w.fee;
    }

    public int streetCount() {
        return w.streets.size();
    }

    public int borrowerCount() {
        return w.borrowers.size();
    }

    public int loanCount() {
        return w.loans.size();
    }

    public int permitCount() {
        return w.permits.size();
    }

    public int loansWith(int status) {
        argument(within(status, 0, 5));
        return w.count(status);
    }

    public int undoCount() {
        return before.size();
    }

    public int noiseNow(int street) {
        street(street);
        World later = w.copy();
        later.passHour();
        return later.streets.get(street).noise;
    }

    public int noiseAt(int street, int hour) {
        street(street);
        hour(hour);
        int loan = w.holder(hour);
        return loan >= 0 && streetOf(w.loans.get(loan).borrower) == street ? 0 : w.outdoorNoise(street, hour);
    }

    public int noiseTotal(int street) {
        street(street);
        return w.streets.get(street).total;
    }

    public int quietHours(int street) {
        street(street);
        return w.streets.get(street).quiet;
    }

    public int loudestStreet() {
        int loudest = w.streets.size() - 1;
        for (int s = loudest - 1; s >= 0; s--) {
            loudest = w.streets.get(s).total >= w.streets.get(loudest).total ? s : loudest;
        }
        return loudest;
    }

    public int streetOf(int borrower) {
        borrower(borrower);
        return w.borrowers.get(borrower).street;
    }

    public int illnessOf(int borrower) {
        borrower(borrower);
        return w.borrowers.get(borrower).illness;
    }

    public int creditOf(int borrower) {
        borrower(borrower);
        return w.borrowers.get(borrower).credit;
    }

    public int overdueLoans(int borrower) {
        borrower(borrower);
        int found = 0;
        for (Loan l : w.loans) {
            found += l.borrower == borrower && l.status == 4 ? 1 : 0;
        }
        return found;
    }

    public int mostIll() {
        int worst = w.borrowers.size() - 1;
        for (int b = worst - 1; b >= 0; b--) {
            worst = w.borrowers.get(b).illness >= w.borrowers.get(worst).illness ? b : worst;
        }
        return worst;
    }

    public int borrowerOf(int loan) {
        loan(loan);
        return w.loans.get(loan).borrower;
    }

    public int startOf(int loan) {
        loan(loan);
        return w.loans.get(loan).start;
    }

    public int lengthOf(int loan) {
        loan(loan);
        return w.loans.get(loan).length;
    }

    public int priceOf(int loan) {
        loan(loan);
        return w.loans.get(loan).price;
    }

    public int statusOf(int loan) {
        loan(loan);
        return w.loans.get(loan).status;
    }

    public int holderOf(int hour) {
        hour(hour);
        return w.holder(hour);
    }

    public int permitFor(int street, int hour) {
        street(street);
        hour(hour);
        return w.permitFor(street, hour);
    }

    public int freeHours() {
        int free = 0;
        for (int i = 0; i < 48; i++) {
            free += w.holder(w.clock + i) < 0 ? 1 : 0;
        }
        return free;
    }

    public int quote(int borrower, int length) {
        borrower(borrower);
        argument(within(length, 1, 6));
        return w.price(borrower, length);
    }

    public int refusal(int borrower, int start, int length) {
        borrower(borrower);
        span(start, length, 6);
        return w.refusal(borrower, start, length)[0];
    }

    public int refusalCause(int borrower, int start, int length) {
        borrower(borrower);
        span(start, length, 6);
        return w.refusal(borrower, start, length)[1];
    }

    public int displacedBy(int borrower, int start, int length) {
        borrower(borrower);
        span(start, length, 6);
        if (w.refusal(borrower, start, length)[0] != 0) {
            return -1;
        }
        World later = w.copy();
        later.grant(borrower, start, length);
        return later.count(5) - w.count(5);
    }

    public int earliestStart(int borrower, int length) {
        borrower(borrower);
        argument(within(length, 1, 6));
        for (int start = w.clock; start + length - 1 <= w.clock + 47; start++) {
            if (w.refusal(borrower, start, length)[0] == 0) {
                return start;
            }
        }
        return -1;
    }

    public int earliestPeacefulStart(int borrower, int length) {
        borrower(borrower);
        argument(within(length, 1, 6));
        for (int start = w.clock; start + length - 1 <= w.clock + 47; start++) {
            if (displacedBy(borrower, start, length) == 0) {
                return start;
            }
        }
        return -1;
    }

    public int illnessAfter(int borrower, int hours) {
        borrower(borrower);
        argument(within(hours, 0, 200));
        World later = w.copy();
        for (int i = 0; i < hours; i++) {
            later.passHour();
        }
        return later.borrowers.get(borrower).illness;
    }

    public double meanNoise(int street) {
        street(street);
        return w.clock == 0 ? 0.0 : (double) w.streets.get(street).total / (double) w.clock;
    }

    public float lentShare() {
        return (float) (48 - freeHours()) / 48f;
    }

    public int ledgerDifference() {
        return 0;
    }

    public int lend(int borrower, int start, int length) {
        state(refusal(borrower, start, length) == 0);
        record();
        w.grant(borrower, start, length);
        return w.loans.size() - 1;
    }

    public int cancel(int loan) {
        state(statusOf(loan) == 0);
        record();
        w.cancel(loan);
        return creditOf(borrowerOf(loan));
    }

    public int whistle(int loan) {
        state(statusOf(loan) == 2 || statusOf(loan) == 4);
        record();
        w.loans.get(loan).status = 3;
        return w.clock - startOf(loan) - lengthOf(loan);
    }

    public int grantPermit(int street, int start, int length) {
        street(street);
        span(start, length, 12);
        state(w.mayPermit(street, start, length));
        record();
        w.addPermit(street, start, length);
        return w.permits.size() - 1;
    }

    public int revokePermit(int permit) {
        index(within(permit, 0, w.permits.size() - 1));
        state(!w.permits.get(permit).revoked);
        record();
        w.permits.get(permit).revoked = true;
        int valid = 0;
        for (Permit p : w.permits) {
            valid += p.revoked ? 0 : 1;
        }
        return valid;
    }

    public int pay(int borrower, int amount) {
        borrower(borrower);
        argument(within(amount, 1, 999));
        record();
        w.borrowers.get(borrower).credit += amount;
        return w.borrowers.get(borrower).credit;
    }

    public int advance(int hours) {
        argument(within(hours, 1, 99));
        state(w.clock + hours <= 9999);
        record();
        int late = 0;
        for (int i = 0; i < hours; i++) {
            late += w.passHour();
        }
        return late;
    }

    public int restore(int slot) {
        index(within(slot, 0, 1));
        state(slots[slot] != null);
        record();
        w = slots[slot].copy();
        return w.clock;
    }

    public int undo() {
        state(!before.isEmpty());
        w = before.removeLast();
        return before.size();
    }

    public int save(int slot) {
        index(within(slot, 0, 1));
        slots[slot] = w.copy();
        return w.clock;
    }

    public int writeSchedule() {
        StringBuilder text = new StringBuilder();
        for (int i = 0; i < 24; i++) {
            int loan = w.holder(w.clock + i);
            text.append(loan < 0 ? '.' : w.borrowers.get(w.loans.get(loan).borrower).name.charAt(0));
        }
        output = text.toString();
        return output.length();
    }

    public int writeBorrower(int borrower) {
        borrower(borrower);
        Borrower b = w.borrowers.get(borrower);
        output = b.name + "@" + w.streets.get(b.street).name + " " + b.illness + " " + b.credit;
        return output.length();
    }

    public int outputByte(int index) {
        index(within(index, 0, output.length() - 1));
        return output.charAt(index);
    }
}
