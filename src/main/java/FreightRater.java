import java.util.ArrayList;
import java.util.NoSuchElementException;

/** Rates freight by dated tariffs, consolidates shipments and keeps the accounts of customers. */
public final class FreightRater {
    private static final int LAST_DAY = 999;
    private static final int LAST_PLACE = 999;
    private static final int LAST_CUSTOMER = 3;
    private static final int ALL_HANDLINGS = 255;
    private static final int LONGEST_SIDE = 200;
    private static final int HEAVIEST_PIECE = 999;
    private static final int HEAVIEST_GROUP = 99999;
    private static final int MOST_CONSOLIDATED = 8;
    private static final int MOST_SEARCHED = 6;
    private static final int MOST_REBATE = 50;
    private static final int MOST_UNDONE = 8;
    private static final int INPUT_SIZE = 80;
    private static final int FAULT_BASE = -100;

    private final State now = new State();
    private final State saved = new State();
    private boolean isSaved;
    private final State[] past = new State[MOST_UNDONE];
    private int pastEnd;
    private int pastCount;
    private final char[] input = new char[INPUT_SIZE];
    private int inputLength;
    private final StringBuilder sheet = new StringBuilder();
    private int impossibleStatement = -1;
    private int keptReason;
    private int keptDetail;
    private final Rating current = new Rating();
    private final Plan plan = new Plan();

    public FreightRater() {
        for (int i = 0; i < past.length; i++) {
            past[i] = new State();
        }
    }

    // ---- versions

    public int makeVersion(int day, int from)
            throws IllegalArgumentException, IndexOutOfBoundsException, IllegalStateException {
        if (!isBetween(day, 0, LAST_DAY) || now.hasFirstDay(day)) {
            throw new IllegalArgumentException();
        }
        Version source = from == -1 ? new Version() : now.versionAt(from);
        if (source == null) {
            throw new IndexOutOfBoundsException();
        }
        if (now.versionCount >= State.MOST_VERSIONS) {
            throw new IllegalStateException();
        }
        remember();
        Version made = new Version(source);
        made.firstDay = day;
        return now.addVersion(made);
    }

    public int feed(char character) throws IllegalStateException {
        if (inputLength >= INPUT_SIZE) {
            throw new IllegalStateException();
        }
        input[inputLength] = character;
        inputLength++;
        return inputLength;
    }

    public int amend(int version) throws IndexOutOfBoundsException, UnsupportedOperationException {
        int length = inputLength;
        inputLength = 0;
        Version old = now.versionAt(version);
        if (old == null) {
            throw new IndexOutOfBoundsException();
        }
        Reader reader = new Reader(input, length);
        ArrayList<Statement> statements = reader.readText();
        if (reader.hasFault()) {
            return FAULT_BASE - reader.at;
        }
        // The statements change a copy, so that an impossible one leaves nothing behind.
        Version amended = new Version(old);
        for (int i = 0; i < statements.size(); i++) {
            if (!amended.carryOut(statements.get(i))) {
                impossibleStatement = i;
                throw new UnsupportedOperationException();
            }
        }
        remember();
        now.versions[version] = amended;
        return statements.size();
    }

    public int impossible() throws NoSuchElementException {
        if (impossibleStatement < 0) {
            throw new NoSuchElementException();
        }
        return impossibleStatement;
    }

    public int versionOn(int day) throws IllegalArgumentException, NoSuchElementException {
        if (!isBetween(day, 0, LAST_DAY)) {
            throw new IllegalArgumentException();
        }
        int found = now.versionFor(day);
        if (found < 0) {
            throw new NoSuchElementException();
        }
        return found;
    }

    public int version(int version, int what) throws IndexOutOfBoundsException, IllegalArgumentException {
        Version tariff = now.versionAt(version);
        if (tariff == null) {
            throw new IndexOutOfBoundsException();
        }
        switch (what) {
            case 0: return tariff.firstDay;
            case 1: return tariff.rangeCount;
            case 2: return tariff.divisor;
            case 3: return tariff.fuel;
            case 4: return tariff.stopCharge;
            case 5: return tariff.capacity;
            case 6: return tariff.accessorialSet();
            case 7: return tariff.countBreaks();
            default: throw new IllegalArgumentException();
        }
    }

    public int zoneOf(int version, int place) throws IndexOutOfBoundsException, NoSuchElementException {
        Version tariff = now.versionAt(version);
        if (tariff == null || !isBetween(place, 0, LAST_PLACE)) {
            throw new IndexOutOfBoundsException();
        }
        int zone = tariff.findZone(place);
        if (zone == 0) {
            throw new NoSuchElementException();
        }
        return zone;
    }

    public int breakOf(int version, int zone, int i, boolean isRate) throws IndexOutOfBoundsException {
        Scale scale = findScale(version, zone);
        if (scale == null || !isBetween(i, -1, scale.count - 1)) {
            throw new IndexOutOfBoundsException();
        }
        if (i == -1) {
            return isRate ? scale.minimum : scale.count;
        }
        return isRate ? scale.rates[i] : scale.weights[i];
    }

    public int accessorial(int version, int accessorial, int what)
            throws IndexOutOfBoundsException, NoSuchElementException, IllegalArgumentException {
        Accessorial found = requireAccessorial(version, accessorial);
        switch (what) {
            case 0: return found.number;
            case 1: return found.kind;
            case 2: return found.rowCount;
            case 3: return found.tests.size();
            case 4: return found.excluded;
            default: throw new IllegalArgumentException();
        }
    }

    public int base(int version, int zone, int weight)
            throws IndexOutOfBoundsException, IllegalArgumentException, NoSuchElementException {
        Scale scale = findScale(version, zone);
        if (scale == null) {
            throw new IndexOutOfBoundsException();
        }
        if (!isBetween(weight, 0, HEAVIEST_GROUP)) {
            throw new IllegalArgumentException();
        }
        int cheapest = scale.findCheapest(weight);
        if (cheapest < 0) {
            throw new NoSuchElementException();
        }
        return scale.chargeFor(cheapest, weight);
    }

    // ---- shipments

    public int ship(int place, int day, int handlings, int customer)
            throws IllegalArgumentException, IllegalStateException {
        if (!isRoute(place, day) || !isBetween(handlings, 0, ALL_HANDLINGS)
                || !isBetween(customer, 0, LAST_CUSTOMER)) {
            throw new IllegalArgumentException();
        }
        if (now.shipmentCount >= State.MOST_SHIPMENTS) {
            throw new IllegalStateException();
        }
        remember();
        return now.addShipment(new Shipment(place, day, handlings, customer));
    }

    public int pack(int shipment, int length, int width, int height, int weight)
            throws IndexOutOfBoundsException, IllegalArgumentException, IllegalStateException {
        Shipment old = requireShipment(shipment);
        if (!isSide(length) || !isSide(width) || !isSide(height) || !isBetween(weight, 1, HEAVIEST_PIECE)) {
            throw new IllegalArgumentException();
        }
        if (old.isPosted() || old.pieceCount >= Shipment.MOST_PIECES) {
            throw new IllegalStateException();
        }
        remember();
        Shipment packed = new Shipment(old);
        packed.addPiece(length, width, height, weight);
        now.shipments[shipment] = packed;
        return packed.pieceCount;
    }

    public int route(int shipment, int place, int day)
            throws IndexOutOfBoundsException, IllegalArgumentException, IllegalStateException {
        Shipment old = requireShipment(shipment);
        if (!isRoute(place, day)) {
            throw new IllegalArgumentException();
        }
        if (old.isPosted()) {
            throw new IllegalStateException();
        }
        remember();
        Shipment routed = new Shipment(old);
        routed.place = place;
        routed.day = day;
        now.shipments[shipment] = routed;
        return old.place;
    }

    public int handle(int shipment, int handlings)
            throws IndexOutOfBoundsException, IllegalArgumentException, IllegalStateException {
        Shipment old = requireShipment(shipment);
        if (!isBetween(handlings, 0, ALL_HANDLINGS)) {
            throw new IllegalArgumentException();
        }
        if (old.isPosted()) {
            throw new IllegalStateException();
        }
        remember();
        Shipment handled = new Shipment(old);
        handled.handlings = handlings;
        now.shipments[shipment] = handled;
        return old.handlings;
    }

    public int shipment(int shipment, int what) throws IndexOutOfBoundsException, IllegalArgumentException {
        Shipment found = requireShipment(shipment);
        switch (what) {
            case 0: return found.place;
            case 1: return found.day;
            case 2: return found.handlings;
            case 3: return found.customer;
            case 4: return found.pieceCount;
            case 5: return found.realWeight;
            case 6: return found.volume();
            case 7: return found.longest;
            case 8: return found.share;
            default: throw new IllegalArgumentException();
        }
    }

    // ---- rating

    public int rate(int group) throws IndexOutOfBoundsException, IllegalStateException {
        requireGroup(group);
        current.work(now, group);
        if (current.reason != 0) {
            keepReason();
            throw new IllegalStateException();
        }
        return current.total();
    }

    public int rating(int group, int what)
            throws IndexOutOfBoundsException, IllegalArgumentException, IllegalStateException {
        requireGroup(group);
        if (!isBetween(what, 0, 9)) {
            throw new IllegalArgumentException();
        }
        requireRated(group);
        switch (what) {
            case 0: return current.baseCharge;
            case 1: return current.extras;
            case 2: return current.stops;
            case 3: return current.fuel;
            case 4: return current.weight;
            case 5: return current.paidWeight;
            case 6: return current.breakWeight;
            case 7: return current.counting;
            case 8: return current.zone;
            default: return current.version;
        }
    }

    public int refuses(int group) throws IndexOutOfBoundsException {
        requireGroup(group);
        current.work(now, group);
        return current.reason;
    }

    public int refusal(boolean isDetail) throws NoSuchElementException {
        if (keptReason == 0) {
            throw new NoSuchElementException();
        }
        return isDetail ? keptDetail : keptReason;
    }

    public double meanPrice(int group) throws IndexOutOfBoundsException, IllegalStateException {
        requireGroup(group);
        requireRated(group);
        if (current.weight < 1) {
            return 0.0;
        }
        return (double) current.total() / (double) current.weight;
    }

    // ---- consolidation

    public int consolidate(int set)
            throws IndexOutOfBoundsException, IllegalArgumentException, IllegalStateException {
        requireSet(set);
        requireSingles(set, true);
        plan.prepare(now, set, current);
        plan.findBest();
        return plan.total();
    }

    public int group(int set, int i) throws IndexOutOfBoundsException, IllegalArgumentException,
            IllegalStateException, NoSuchElementException {
        requireSet(set);
        requireSingles(set, false);
        plan.prepare(now, set, current);
        plan.findBest();
        if (!isBetween(i, -1, plan.partCount - 1)) {
            throw new NoSuchElementException();
        }
        return i == -1 ? plan.partCount : plan.sets[plan.parts[i]];
    }

    public int searched(int set)
            throws IndexOutOfBoundsException, IllegalArgumentException, IllegalStateException {
        requireSet(set);
        if (Integer.bitCount(set) > MOST_SEARCHED) {
            throw new IllegalArgumentException();
        }
        requireSingles(set, false);
        plan.prepare(now, set, current);
        return plan.search();
    }

    public int merged(int set, int what)
            throws IndexOutOfBoundsException, IllegalArgumentException, IllegalStateException {
        requireSet(set);
        if (!isBetween(what, 0, 2)) {
            throw new IllegalArgumentException();
        }
        requireSingles(set, false);
        plan.prepare(now, set, current);
        plan.merge();
        switch (what) {
            case 0: return plan.total();
            case 1: return plan.partCount;
            default: return plan.lowestGroup();
        }
    }

    // ---- accounts

    public int post(int set) throws IndexOutOfBoundsException, IllegalArgumentException,
            UnsupportedOperationException, IllegalStateException {
        requireSet(set);
        if ((set & now.postedSet()) != 0) {
            throw new UnsupportedOperationException();
        }
        requireSingles(set, true);
        plan.prepare(now, set, current);
        plan.findBest();
        remember();
        for (int i = 0; i < plan.partCount; i++) {
            int part = plan.parts[i];
            divide(plan.sets[part], plan.totals[part]);
        }
        now.bookedGroups += plan.partCount;
        return plan.total();
    }

    public int account(int customer) throws IllegalArgumentException {
        if (!isBetween(customer, 0, 6)) {
            throw new IllegalArgumentException();
        }
        switch (customer) {
            case 4: return now.sumOfAccounts();
            case 5: return now.bookedGroups;
            case 6: return now.postedSet();
            default: return now.accountOf(customer);
        }
    }

    public int setRebate(int threshold, int percentage)
            throws IllegalArgumentException, NoSuchElementException, IllegalStateException {
        if (threshold < 0 || !isBetween(percentage, 0, MOST_REBATE)) {
            throw new IllegalArgumentException();
        }
        int step = now.findStep(threshold);
        if (step < 0 && percentage == 0) {
            throw new NoSuchElementException();
        }
        if (step < 0 && now.stepCount >= State.MOST_STEPS) {
            throw new IllegalStateException();
        }
        remember();
        if (percentage == 0) {
            now.removeStep(step);
        } else {
            now.putStep(threshold, percentage);
        }
        return now.stepCount;
    }

    public int rebate(int customer) throws IllegalArgumentException {
        if (!isBetween(customer, 0, LAST_CUSTOMER)) {
            throw new IllegalArgumentException();
        }
        int amount = now.accountOf(customer);
        return percentOf(amount, now.rebatePercentage(amount));
    }

    // ---- undo, snapshot, writing

    public int undo() throws IllegalStateException {
        if (pastCount == 0) {
            throw new IllegalStateException();
        }
        pastCount--;
        pastEnd = (pastEnd + MOST_UNDONE - 1) % MOST_UNDONE;
        now.copyFrom(past[pastEnd]);
        return pastCount;
    }

    public int saveSnapshot() {
        saved.copyFrom(now);
        isSaved = true;
        return now.shipmentCount;
    }

    public int restoreSnapshot() throws IllegalStateException {
        if (!isSaved) {
            throw new IllegalStateException();
        }
        now.copyFrom(saved);
        pastCount = 0;
        return now.shipmentCount;
    }

    public int write(int version, int accessorial) throws IndexOutOfBoundsException, NoSuchElementException {
        Accessorial found = requireAccessorial(version, accessorial);
        sheet.setLength(0);
        sheet.append('a').append(accessorial).append(':');
        found.appendTo(sheet);
        return sheet.length();
    }

    public char paper(int i) throws IndexOutOfBoundsException {
        if (!isBetween(i, 0, sheet.length() - 1)) {
            throw new IndexOutOfBoundsException();
        }
        return sheet.charAt(i);
    }

    // ---- what the calls share

    private static boolean isBetween(int value, int least, int greatest) {
        return value >= least && value <= greatest;
    }

    private static boolean isRoute(int place, int day) {
        return isBetween(place, 0, LAST_PLACE) && isBetween(day, 0, LAST_DAY);
    }

    private static boolean isSide(int length) {
        return isBetween(length, 1, LONGEST_SIDE);
    }

    private static boolean isIn(int set, int member) {
        return (set >> member & 1) == 1;
    }

    private static int percentOf(int amount, int percentage) {
        // A great amount times a percentage is more than an int holds.
        return (int) (((long) amount * percentage + 50) / 100);
    }

    private Scale findScale(int version, int zone) {
        Version tariff = now.versionAt(version);
        return tariff == null ? null : tariff.scaleOf(zone);
    }

    private Accessorial requireAccessorial(int version, int accessorial) {
        Version tariff = now.versionAt(version);
        if (tariff == null) {
            throw new IndexOutOfBoundsException();
        }
        Accessorial found = tariff.accessorialAt(accessorial);
        if (found == null) {
            throw new NoSuchElementException();
        }
        return found;
    }

    private Shipment requireShipment(int shipment) {
        Shipment found = now.shipmentAt(shipment);
        if (found == null) {
            throw new IndexOutOfBoundsException();
        }
        return found;
    }

    private void requireGroup(int group) {
        if (group <= 0 || group >= 1 << now.shipmentCount) {
            throw new IndexOutOfBoundsException();
        }
    }

    private void requireRated(int group) {
        current.work(now, group);
        if (current.reason != 0) {
            throw new IllegalStateException();
        }
    }

    private void requireSet(int set) {
        requireGroup(set);
        if (Integer.bitCount(set) > MOST_CONSOLIDATED) {
            throw new IllegalArgumentException();
        }
    }

    private void requireSingles(int set, boolean isKept) {
        for (int s = 0; s < State.MOST_SHIPMENTS; s++) {
            if (!isIn(set, s)) {
                continue;
            }
            current.work(now, 1 << s);
            if (current.reason != 0) {
                if (isKept) {
                    keepReason();
                }
                throw new IllegalStateException();
            }
        }
    }

    private void keepReason() {
        keptReason = current.reason;
        keptDetail = current.detail;
    }

    /** Keeps the state as it is before a change, in place of the oldest one if the ring is full. */
    private void remember() {
        past[pastEnd].copyFrom(now);
        pastEnd = (pastEnd + 1) % MOST_UNDONE;
        pastCount = Math.min(pastCount + 1, MOST_UNDONE);
    }

    /** Divides the total of a group among its shipments, which are posted by this. */
    private void divide(int group, int total) {
        int[] weights = new int[State.MOST_SHIPMENTS];
        long whole = 0;
        for (int s = 0; s < now.shipmentCount; s++) {
            if (isIn(group, s)) {
                current.work(now, 1 << s);
                weights[s] = current.weight;
                whole += current.weight;
            }
        }
        if (whole <= 0) {
            return;
        }
        int left = total;
        for (int s = 0; s < now.shipmentCount; s++) {
            left -= (int) ((long) total * weights[s] / whole);
        }
        for (int s = 0; s < now.shipmentCount; s++) {
            if (isIn(group, s)) {
                int share = (int) ((long) total * weights[s] / whole);
                Shipment posted = new Shipment(now.shipments[s]);
                posted.share = left > 0 ? share + 1 : share;
                now.shipments[s] = posted;
                left--;
            }
        }
    }

    /**
     * All that can be undone and saved. A version or shipment that stands here never changes, it is
     * only replaced, so that copies of a state can share it.
     */
    private static final class State {
        static final int MOST_VERSIONS = 6;
        static final int MOST_SHIPMENTS = 10;
        static final int MOST_STEPS = 5;

        final Version[] versions = new Version[MOST_VERSIONS];
        int versionCount;
        final Shipment[] shipments = new Shipment[MOST_SHIPMENTS];
        int shipmentCount;
        final int[] thresholds = new int[MOST_STEPS];
        final int[] percentages = new int[MOST_STEPS];
        int stepCount;
        int bookedGroups;

        void copyFrom(State other) {
            for (int i = 0; i < MOST_VERSIONS; i++) {
                versions[i] = other.versions[i];
            }
            for (int i = 0; i < MOST_SHIPMENTS; i++) {
                shipments[i] = other.shipments[i];
            }
            for (int i = 0; i < MOST_STEPS; i++) {
                thresholds[i] = other.thresholds[i];
                percentages[i] = other.percentages[i];
            }
            versionCount = other.versionCount;
            shipmentCount = other.shipmentCount;
            stepCount = other.stepCount;
            bookedGroups = other.bookedGroups;
        }

        /** The version, or null if there is none with this number. */
        Version versionAt(int number) {
            return isBetween(number, 0, versionCount - 1) ? versions[number] : null;
        }

        /** The shipment, or null if there is none with this number. */
        Shipment shipmentAt(int number) {
            return isBetween(number, 0, shipmentCount - 1) ? shipments[number] : null;
        }

        int addVersion(Version made) {
            versions[versionCount] = made;
            versionCount++;
            return versionCount - 1;
        }

        int addShipment(Shipment made) {
            shipments[shipmentCount] = made;
            shipmentCount++;
            return shipmentCount - 1;
        }

        boolean hasFirstDay(int day) {
            for (int i = 0; i < versionCount; i++) {
                if (versions[i].firstDay == day) {
                    return true;
                }
            }
            return false;
        }

        /** The number of the version of a day, or -1 without one. */
        int versionFor(int day) {
            int found = -1;
            for (int i = 0; i < versionCount; i++) {
                int first = versions[i].firstDay;
                if (first <= day && (found < 0 || first > versions[found].firstDay)) {
                    found = i;
                }
            }
            return found;
        }

        int postedSet() {
            int set = 0;
            for (int s = 0; s < shipmentCount; s++) {
                if (shipments[s].isPosted()) {
                    set |= 1 << s;
                }
            }
            return set;
        }

        int accountOf(int customer) {
            int sum = 0;
            for (int s = 0; s < shipmentCount; s++) {
                if (shipments[s].customer == customer && shipments[s].isPosted()) {
                    sum += shipments[s].share;
                }
            }
            return sum;
        }

        int sumOfAccounts() {
            int sum = 0;
            for (int customer = 0; customer <= LAST_CUSTOMER; customer++) {
                sum += accountOf(customer);
            }
            return sum;
        }

        /** The place of the rebate step with this threshold, or -1 without one. */
        int findStep(int threshold) {
            for (int i = 0; i < stepCount; i++) {
                if (thresholds[i] == threshold) {
                    return i;
                }
            }
            return -1;
        }

        void putStep(int threshold, int percentage) {
            int step = findStep(threshold);
            if (step < 0) {
                if (stepCount >= MOST_STEPS) {
                    return;
                }
                step = stepCount;
                stepCount++;
            }
            thresholds[step] = threshold;
            percentages[step] = percentage;
        }

        void removeStep(int step) {
            if (!isBetween(step, 0, stepCount - 1)) {
                return;
            }
            // The order of the steps means nothing, so the last one can fill the gap.
            stepCount--;
            thresholds[step] = thresholds[stepCount];
            percentages[step] = percentages[stepCount];
        }

        int rebatePercentage(int amount) {
            int found = -1;
            for (int i = 0; i < stepCount; i++) {
                if (thresholds[i] <= amount && (found < 0 || thresholds[i] > thresholds[found])) {
                    found = i;
                }
            }
            return found < 0 ? 0 : percentages[found];
        }
    }

    /** A version of the tariff; it is changed by statements only until it stands in a state. */
    private static final class Version {
        static final int MOST_RANGES = 12;
        static final int LAST_ZONE = 9;
        static final int ACCESSORIALS = 10;
        static final int LEAST_DIVISOR = 1000;
        static final int MOST_FUEL = 99;

        int firstDay;
        int rangeCount;
        final int[] rangeFirsts;
        final int[] rangeLasts;
        final int[] rangeZones;
        final Scale[] scales = new Scale[LAST_ZONE];
        int divisor = 5000;
        int fuel;
        int stopCharge;
        int capacity = 999;
        final Accessorial[] accessorials = new Accessorial[ACCESSORIALS];

        Version() {
            rangeFirsts = new int[MOST_RANGES];
            rangeLasts = new int[MOST_RANGES];
            rangeZones = new int[MOST_RANGES];
            for (int i = 0; i < LAST_ZONE; i++) {
                scales[i] = new Scale();
            }
        }

        Version(Version other) {
            firstDay = other.firstDay;
            rangeCount = other.rangeCount;
            rangeFirsts = other.rangeFirsts.clone();
            rangeLasts = other.rangeLasts.clone();
            rangeZones = other.rangeZones.clone();
            for (int i = 0; i < LAST_ZONE; i++) {
                scales[i] = new Scale(other.scales[i]);
            }
            divisor = other.divisor;
            fuel = other.fuel;
            stopCharge = other.stopCharge;
            capacity = other.capacity;
            for (int i = 0; i < ACCESSORIALS; i++) {
                accessorials[i] = other.accessorials[i];
            }
        }

        /** The breaks of a zone, or null if there is no such zone. */
        Scale scaleOf(int zone) {
            return isBetween(zone, 1, LAST_ZONE) ? scales[zone - 1] : null;
        }

        /** The accessorial, or null if it is missing or there is none with this number. */
        Accessorial accessorialAt(int number) {
            return isBetween(number, 0, ACCESSORIALS - 1) ? accessorials[number] : null;
        }

        int accessorialSet() {
            int set = 0;
            for (int i = 0; i < ACCESSORIALS; i++) {
                if (accessorials[i] != null) {
                    set |= 1 << i;
                }
            }
            return set;
        }

        int countBreaks() {
            int sum = 0;
            for (int i = 0; i < LAST_ZONE; i++) {
                sum += scales[i].count;
            }
            return sum;
        }

        /** The zone of a place, or 0 without one. */
        int findZone(int place) {
            for (int i = rangeCount - 1; i >= 0; i--) {
                if (isBetween(place, rangeFirsts[i], rangeLasts[i])) {
                    return rangeZones[i];
                }
            }
            return 0;
        }

        /** Carries out a statement; answers false if it is impossible. */
        boolean carryOut(Statement statement) {
            int number = statement.first;
            switch (statement.letter) {
                case 'z': return addRange(statement.target, number, statement.second);
                case 'b': return putBreak(statement.target, number, statement.second);
                case 'm': return setMinimum(statement.target, number);
                case 'd':
                    divisor = number;
                    return number >= LEAST_DIVISOR;
                case 'f':
                    fuel = number;
                    return number <= MOST_FUEL;
                case 's':
                    stopCharge = number;
                    return true;
                case 'c':
                    capacity = number;
                    return true;
                case 'a': return putAccessorial(statement.target, statement.accessorial);
                case 'r': return removeAccessorial(statement.target);
                default: return false;
            }
        }

        private boolean addRange(int zone, int first, int last) {
            if (first > last || last > LAST_PLACE || rangeCount >= MOST_RANGES) {
                return false;
            }
            rangeFirsts[rangeCount] = first;
            rangeLasts[rangeCount] = last;
            rangeZones[rangeCount] = zone;
            rangeCount++;
            return true;
        }

        private boolean putBreak(int zone, int weight, int breakRate) {
            Scale scale = scaleOf(zone);
            return scale != null && scale.putBreak(weight, breakRate);
        }

        private boolean setMinimum(int zone, int amount) {
            Scale scale = scaleOf(zone);
            if (scale == null) {
                return false;
            }
            scale.minimum = amount;
            return true;
        }

        private boolean putAccessorial(int number, Accessorial made) {
            if (!isBetween(number, 0, ACCESSORIALS - 1) || made == null || !made.isPossible()) {
                return false;
            }
            accessorials[number] = made;
            return true;
        }

        private boolean removeAccessorial(int number) {
            if (accessorialAt(number) == null) {
                return false;
            }
            accessorials[number] = null;
            return true;
        }
    }

    /** The breaks of a zone, in ascending order of their weights, and its minimum charge. */
    private static final class Scale {
        static final int MOST_BREAKS = 5;
        static final int MOST_RATE = 99;

        int count;
        final int[] weights;
        final int[] rates;
        int minimum;

        Scale() {
            weights = new int[MOST_BREAKS];
            rates = new int[MOST_BREAKS];
        }

        Scale(Scale other) {
            count = other.count;
            weights = other.weights.clone();
            rates = other.rates.clone();
            minimum = other.minimum;
        }

        /** Sets or, with the rate 0, removes a break; answers false if that is impossible. */
        boolean putBreak(int weight, int breakRate) {
            int i = 0;
            while (i < count && weights[i] < weight) {
                i++;
            }
            boolean exists = i < count && weights[i] == weight;
            if (breakRate > MOST_RATE) {
                return false;
            }
            if (breakRate == 0) {
                return exists && removeBreak(i);
            }
            if (!exists && !openGap(i)) {
                return false;
            }
            weights[i] = weight;
            rates[i] = breakRate;
            return true;
        }

        private boolean removeBreak(int place) {
            count--;
            for (int i = place; i < count; i++) {
                weights[i] = weights[i + 1];
                rates[i] = rates[i + 1];
            }
            return true;
        }

        private boolean openGap(int place) {
            if (count >= MOST_BREAKS) {
                return false;
            }
            for (int i = count; i > place; i--) {
                weights[i] = weights[i - 1];
                rates[i] = rates[i - 1];
            }
            count++;
            return true;
        }

        /** The break by which a weight is cheapest, the first one of several, or -1 without breaks. */
        int findCheapest(int weight) {
            int found = -1;
            for (int i = 0; i < count; i++) {
                if (found < 0 || amountBy(i, weight) < amountBy(found, weight)) {
                    found = i;
                }
            }
            return found;
        }

        /** What a weight costs by a break, at least the minimum charge. */
        int chargeFor(int i, int weight) {
            return Math.max(amountBy(i, weight), minimum);
        }

        private int amountBy(int i, int weight) {
            return Math.max(weight, weights[i]) * rates[i];
        }
    }

    /** An accessorial charge; it never changes after it has been read. */
    private static final class Accessorial {
        static final int AMOUNT = 0;
        static final int PER_KILOGRAM = 1;
        static final int PERCENTAGE = 2;
        static final int MOST_PER_KILOGRAM = 99;
        static final int MOST_PERCENTAGE = 50;

        int number;
        int kind = AMOUNT;
        int excluded = -1;
        int rowCount;
        final ArrayList<Test> tests = new ArrayList<Test>();

        boolean isPossible() {
            switch (kind) {
                case PER_KILOGRAM: return number <= MOST_PER_KILOGRAM;
                case PERCENTAGE: return number <= MOST_PERCENTAGE;
                default: return true;
            }
        }

        void addTest(Test test) {
            tests.add(test);
            if (test.opensRow) {
                rowCount++;
            }
        }

        /** Answers whether the condition holds for a group; no condition always holds. */
        boolean applies(Rating group) {
            boolean rowHolds = tests.isEmpty();
            for (int i = 0; i < tests.size(); i++) {
                Test test = tests.get(i);
                if (test.opensRow) {
                    if (rowHolds) {
                        return true;
                    }
                    rowHolds = true;
                }
                rowHolds = rowHolds && test.holds(group);
            }
            return rowHolds;
        }

        int amountFor(int baseCharge, int weight) {
            switch (kind) {
                case PER_KILOGRAM: return number * weight;
                case PERCENTAGE: return percentOf(baseCharge, number);
                default: return number;
            }
        }

        /** Appends all that stands behind the colon of its statement. */
        void appendTo(StringBuilder text) {
            text.append(number);
            if (kind == PERCENTAGE) {
                text.append('%');
            } else if (kind == PER_KILOGRAM) {
                text.append('*');
            }
            for (int i = 0; i < tests.size(); i++) {
                Test test = tests.get(i);
                text.append(i == 0 ? '?' : test.opensRow ? '|' : '&');
                test.appendTo(text);
            }
            if (excluded >= 0) {
                text.append('!').append(excluded);
            }
        }
    }

    /** A test of a condition; the first one of a row opens it. */
    private static final class Test {
        final boolean opensRow;
        boolean isNegated;
        char subject;
        char relation;
        int number;

        Test(boolean opensRow) {
            this.opensRow = opensRow;
        }

        boolean holds(Rating group) {
            if (subject == 'h') {
                return isIn(group.handlings, number) != isNegated;
            }
            int value = valueOf(group);
            boolean isTrue = relation == '<' ? value < number : relation == '>' ? value > number : value == number;
            return isTrue != isNegated;
        }

        private int valueOf(Rating group) {
            if (subject == 'w') {
                return group.weight;
            }
            if (subject == 'n') {
                return group.pieceCount;
            }
            return subject == 'l' ? group.longest : group.zone;
        }

        void appendTo(StringBuilder text) {
            if (isNegated) {
                text.append('-');
            }
            text.append(subject);
            if (subject != 'h') {
                text.append(relation);
            }
            text.append(number);
        }
    }

    /** A statement of a text; what its letter does not need stays 0. */
    private static final class Statement {
        final int letter;
        int target;
        int first;
        int second;
        Accessorial accessorial;

        Statement(int letter) {
            this.letter = letter;
        }
    }

    /** Reads a text; after a fault it stands still, so that its position is the fault's. */
    private static final class Reader {
        static final int MOST_DIGITS = 4;

        final char[] text;
        final int length;
        int at;
        boolean hasFailed;

        Reader(char[] text, int length) {
            this.text = text;
            this.length = Math.min(length, text.length);
        }

        boolean hasFault() {
            return hasFailed || at < length;
        }

        ArrayList<Statement> readText() {
            ArrayList<Statement> statements = new ArrayList<Statement>();
            for (int i = 0; i <= length; i++) {
                statements.add(readStatement());
                if (!take(';')) {
                    break;
                }
            }
            return statements;
        }

        private Statement readStatement() {
            Statement read = new Statement(takeOneOf("zbmdfscar"));
            switch (read.letter) {
                case 'z':
                    readZone(read);
                    expect('-');
                    read.second = readNumber();
                    break;
                case 'b':
                    readZone(read);
                    expect('*');
                    read.second = readNumber();
                    break;
                case 'm':
                    readZone(read);
                    break;
                case 'a':
                    read.target = readDigit('0', '9');
                    expect(':');
                    read.accessorial = readAccessorial();
                    break;
                case 'r':
                    read.target = readDigit('0', '9');
                    break;
                default:
                    read.first = readNumber();
                    break;
            }
            return read;
        }

        private void readZone(Statement read) {
            read.target = readDigit('1', '9');
            expect(':');
            read.first = readNumber();
        }

        private Accessorial readAccessorial() {
            Accessorial read = new Accessorial();
            read.number = readNumber();
            if (take('%')) {
                read.kind = Accessorial.PERCENTAGE;
            } else if (take('*')) {
                read.kind = Accessorial.PER_KILOGRAM;
            }
            if (take('?')) {
                readCondition(read);
            }
            if (take('!')) {
                read.excluded = readDigit('0', '9');
            }
            return read;
        }

        private void readCondition(Accessorial read) {
            boolean opensRow = true;
            for (int i = 0; i <= length; i++) {
                read.addTest(readTest(opensRow));
                opensRow = take('|');
                if (!opensRow && !take('&')) {
                    break;
                }
            }
        }

        private Test readTest(boolean opensRow) {
            Test read = new Test(opensRow);
            read.isNegated = take('-');
            read.subject = takeOneOf("hwnlz");
            if (read.subject == 'h') {
                read.number = readDigit('0', '7');
            } else {
                read.relation = takeOneOf("<>=");
                read.number = readNumber();
            }
            return read;
        }

        private boolean take(char character) {
            if (hasFailed || at >= length || text[at] != character) {
                return false;
            }
            at++;
            return true;
        }

        private void expect(char character) {
            if (!take(character)) {
                hasFailed = true;
            }
        }

        private char takeOneOf(String characters) {
            if (hasFailed || at >= length || characters.indexOf(text[at]) < 0) {
                hasFailed = true;
                return 0;
            }
            at++;
            return text[at - 1];
        }

        private int readDigit(char least, char greatest) {
            if (hasFailed || at >= length || text[at] < least || text[at] > greatest) {
                hasFailed = true;
                return 0;
            }
            at++;
            return text[at - 1] - '0';
        }

        private int readNumber() {
            int number = 0;
            int digits = 0;
            while (digits < MOST_DIGITS && !hasFailed && at < length && text[at] >= '0' && text[at] <= '9') {
                number = number * 10 + text[at] - '0';
                at++;
                digits++;
            }
            hasFailed = hasFailed || digits == 0;
            return number;
        }
    }

    /** A shipment; it changes only until it stands in a state. */
    private static final class Shipment {
        static final int MOST_PIECES = 5;
        static final int OPEN = -1;

        int place;
        int day;
        int handlings;
        final int customer;
        int pieceCount;
        final int[] volumes;
        int realWeight;
        int longest;
        int share = OPEN;

        Shipment(int place, int day, int handlings, int customer) {
            this.place = place;
            this.day = day;
            this.handlings = handlings;
            this.customer = customer;
            volumes = new int[MOST_PIECES];
        }

        Shipment(Shipment other) {
            place = other.place;
            day = other.day;
            handlings = other.handlings;
            customer = other.customer;
            pieceCount = other.pieceCount;
            volumes = other.volumes.clone();
            realWeight = other.realWeight;
            longest = other.longest;
            share = other.share;
        }

        boolean isPosted() {
            return share != OPEN;
        }

        void addPiece(int length, int width, int height, int weight) {
            if (pieceCount >= MOST_PIECES) {
                return;
            }
            volumes[pieceCount] = length * width * height;
            pieceCount++;
            realWeight += weight;
            longest = Math.max(longest, Math.max(length, Math.max(width, height)));
        }

        int volume() {
            int sum = 0;
            for (int i = 0; i < pieceCount; i++) {
                sum += volumes[i];
            }
            return sum;
        }

        int dimensionalWeight(int divisor) {
            if (divisor < 1) {
                return 0;
            }
            int sum = 0;
            for (int i = 0; i < pieceCount; i++) {
                sum += (volumes[i] + divisor - 1) / divisor;
            }
            return sum;
        }
    }

    /** The rating of a group, or why it is refused; it is worked out anew for each group. */
    private static final class Rating {
        private int count;
        private final Shipment[] members = new Shipment[State.MOST_SHIPMENTS];
        private final int[] numbers = new int[State.MOST_SHIPMENTS];
        int reason;
        int detail;
        int version;
        int zone;
        int weight;
        int handlings;
        int pieceCount;
        int longest;
        int baseCharge;
        int paidWeight;
        int breakWeight;
        int extras;
        int counting;
        int stops;
        int fuel;

        int total() {
            return baseCharge + extras + stops + fuel;
        }

        void work(State state, int group) {
            gather(state, group);
            reason = 0;
            detail = 0;
            if (count == 0 || isRefusedForDays() || isRefusedForVersion(state)) {
                return;
            }
            Version tariff = state.versionAt(version);
            if (tariff == null || isRefusedForZones(tariff)) {
                return;
            }
            addUp(tariff);
            Scale scale = tariff.scaleOf(zone);
            if (scale == null || isRefusedForCharges(tariff, scale) || isRefusedForHandlings()) {
                return;
            }
            chargeBase(scale);
            addExtras(tariff);
            stops = tariff.stopCharge * (count - 1);
            fuel = percentOf(baseCharge + extras + stops, tariff.fuel);
        }

        private void gather(State state, int group) {
            count = 0;
            for (int s = 0; s < state.shipmentCount; s++) {
                if (isIn(group, s)) {
                    members[count] = state.shipments[s];
                    numbers[count] = s;
                    count++;
                }
            }
        }

        private boolean refuse(int why, int what) {
            reason = why;
            detail = what;
            return true;
        }

        private boolean isRefusedForDays() {
            for (int i = 0; i < count; i++) {
                if (members[i].pieceCount == 0) {
                    return refuse(1, numbers[i]);
                }
            }
            for (int i = 1; i < count; i++) {
                if (members[i].day != members[0].day) {
                    return refuse(2, numbers[i]);
                }
            }
            return false;
        }

        private boolean isRefusedForVersion(State state) {
            int day = members[0].day;
            version = state.versionFor(day);
            return version < 0 && refuse(3, day);
        }

        private boolean isRefusedForZones(Version tariff) {
            int other = -1;
            for (int i = 0; i < count; i++) {
                int found = tariff.findZone(members[i].place);
                if (found == 0) {
                    return refuse(4, numbers[i]);
                }
                if (i == 0) {
                    zone = found;
                } else if (found != zone && other < 0) {
                    other = numbers[i];
                }
            }
            return other >= 0 && refuse(5, other);
        }

        private boolean isRefusedForCharges(Version tariff, Scale scale) {
            if (scale.count == 0) {
                return refuse(6, zone);
            }
            return count > 1 && weight > tariff.capacity && refuse(7, weight);
        }

        private boolean isRefusedForHandlings() {
            for (int i = 0; i < count; i++) {
                int others = 0;
                for (int k = 0; k < count; k++) {
                    if (k != i) {
                        others |= members[k].handlings;
                    }
                }
                int own = members[i].handlings;
                if (isIn(own, 0) && isIn(others, 1) || isIn(own, 1) && isIn(others, 0)) {
                    return refuse(8, numbers[i]);
                }
            }
            return false;
        }

        private void addUp(Version tariff) {
            int real = 0;
            int dimensional = 0;
            handlings = 0;
            pieceCount = 0;
            longest = 0;
            for (int i = 0; i < count; i++) {
                Shipment member = members[i];
                real += member.realWeight;
                dimensional += member.dimensionalWeight(tariff.divisor);
                handlings |= member.handlings;
                pieceCount += member.pieceCount;
                longest = Math.max(longest, member.longest);
            }
            weight = Math.max(real, dimensional);
        }

        private void chargeBase(Scale scale) {
            int cheapest = scale.findCheapest(weight);
            if (cheapest < 0) {
                return;
            }
            breakWeight = scale.weights[cheapest];
            paidWeight = Math.max(weight, breakWeight);
            baseCharge = scale.chargeFor(cheapest, weight);
        }

        private void addExtras(Version tariff) {
            extras = 0;
            counting = 0;
            int excluded = 0;
            for (int a = 0; a < Version.ACCESSORIALS; a++) {
                Accessorial accessorial = tariff.accessorials[a];
                if (accessorial == null || isIn(excluded, a) || !accessorial.applies(this)) {
                    continue;
                }
                extras += accessorial.amountFor(baseCharge, weight);
                counting |= 1 << a;
                if (accessorial.excluded >= 0) {
                    excluded |= 1 << accessorial.excluded;
                }
            }
        }
    }

    /**
     * Ways to divide a set of shipments into groups. A part is a group by the places of its shipments
     * in the set, which keeps the order of the groups as numbers.
     */
    private static final class Plan {
        static final int PARTS = 1 << MOST_CONSOLIDATED;
        static final int REFUSED = -1;

        private int size;
        final int[] sets = new int[PARTS];
        final int[] totals = new int[PARTS];
        private final int[] bestTotals = new int[PARTS];
        private final int[] bestCounts = new int[PARTS];
        private final int[] bestFirsts = new int[PARTS];
        final int[] parts = new int[MOST_CONSOLIDATED];
        int partCount;

        /** Rates all groups of the set, each of whose shipments can be rated alone. */
        void prepare(State state, int set, Rating rating) {
            size = 0;
            for (int s = 0; s < State.MOST_SHIPMENTS && size < MOST_CONSOLIDATED; s++) {
                if (isIn(set, s)) {
                    addMember(s);
                }
            }
            for (int part = 1; part < 1 << size; part++) {
                rating.work(state, sets[part]);
                totals[part] = rating.reason == 0 ? rating.total() : REFUSED;
            }
        }

        private void addMember(int shipment) {
            int first = 1 << size;
            for (int part = 0; part < first; part++) {
                sets[first + part] = sets[part] | 1 << shipment;
            }
            size++;
        }

        int total() {
            int sum = 0;
            for (int i = 0; i < partCount; i++) {
                sum += totals[parts[i]];
            }
            return sum;
        }

        /** The group with the lowest shipment of the set. */
        int lowestGroup() {
            for (int i = 0; i < partCount; i++) {
                if (isIn(parts[i], 0)) {
                    return sets[parts[i]];
                }
            }
            return 0;
        }

        /** Puts the best consolidation into the parts. */
        void findBest() {
            int whole = (1 << size) - 1;
            for (int part = 1; part <= whole; part++) {
                findFirst(part);
            }
            partCount = bestCounts[whole];
            int rest = whole;
            for (int i = 0; i < partCount; i++) {
                parts[i] = bestFirsts[rest];
                rest -= parts[i];
            }
        }

        /**
         * Finds the group with the lowest shipment in the best consolidation of a part. The rest of it
         * is a lesser number, so its best consolidation is known by then; the groups come in ascending
         * order, so the first one of equally good ones stays.
         */
        private void findFirst(int whole) {
            int lowest = whole & -whole;
            int others = whole - lowest;
            int some = 0;
            bestFirsts[whole] = 0;
            for (int i = 0; i < 1 << Integer.bitCount(others); i++) {
                int first = lowest | some;
                int rest = whole - first;
                if (totals[first] != REFUSED && isBetter(whole, totals[first] + bestTotals[rest], bestCounts[rest] + 1)) {
                    bestFirsts[whole] = first;
                    bestTotals[whole] = totals[first] + bestTotals[rest];
                    bestCounts[whole] = bestCounts[rest] + 1;
                }
                // The next subset of the others as a number: the carry runs over the gaps.
                some = some - others & others;
            }
        }

        private boolean isBetter(int whole, int sum, int groups) {
            if (bestFirsts[whole] == 0) {
                return true;
            }
            return sum < bestTotals[whole] || sum == bestTotals[whole] && groups < bestCounts[whole];
        }

        /** The least total, found by trying all ways to add one shipment after the other. */
        int search() {
            partCount = 0;
            return tryFrom(this, 0);
        }

        private static int tryFrom(Plan plan, int next) {
            if (next >= plan.size || next >= MOST_SEARCHED) {
                return plan.totalIfRated();
            }
            int least = REFUSED;
            int before = plan.partCount;
            for (int i = 0; i <= before; i++) {
                if (i == before) {
                    plan.parts[i] = 0;
                    plan.partCount = before + 1;
                }
                plan.parts[i] |= 1 << next;
                int found = tryFrom(plan, next + 1);
                plan.parts[i] -= 1 << next;
                if (found != REFUSED && (least == REFUSED || found < least)) {
                    least = found;
                }
            }
            plan.partCount = before;
            return least;
        }

        private int totalIfRated() {
            for (int i = 0; i < partCount; i++) {
                if (totals[parts[i]] == REFUSED) {
                    return REFUSED;
                }
            }
            return total();
        }

        /** Puts the plain merging into the parts. */
        void merge() {
            partCount = size;
            for (int i = 0; i < size; i++) {
                parts[i] = 1 << i;
            }
            for (int round = 1; round < size; round++) {
                if (!mergePair()) {
                    break;
                }
            }
        }

        private boolean mergePair() {
            int bestSaving = 0;
            int bestOne = 0;
            int bestOther = 0;
            for (int i = 0; i < partCount; i++) {
                for (int k = 0; k < partCount; k++) {
                    int saving = parts[i] < parts[k] ? savingOf(parts[i], parts[k]) : 0;
                    if (saving > bestSaving || saving > 0 && saving == bestSaving
                            && comesBefore(i, k, bestOne, bestOther)) {
                        bestSaving = saving;
                        bestOne = i;
                        bestOther = k;
                    }
                }
            }
            if (bestSaving == 0) {
                return false;
            }
            parts[bestOne] |= parts[bestOther];
            partCount--;
            parts[bestOther] = parts[partCount];
            return true;
        }

        private int savingOf(int lower, int greater) {
            int together = totals[lower | greater];
            return together == REFUSED ? 0 : totals[lower] + totals[greater] - together;
        }

        private boolean comesBefore(int one, int other, int bestOne, int bestOther) {
            if (parts[one] != parts[bestOne]) {
                return parts[one] < parts[bestOne];
            }
            return parts[other] < parts[bestOther];
        }
    }
}
