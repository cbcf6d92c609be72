import java.util.Random;

/** All promises: long runs of calls, each answered by FreightRater and by the Model. */
public final class ModelTest {
    private static final int RUNS = 1000;
    private static final int CALLS = 512;

    private final Random random;
    private final FreightRater rater = new FreightRater();
    private final Model model = new Model();
    private final StringBuilder story = new StringBuilder();
    private int shipments;
    private int versions;
    private int calls;

    private ModelTest(long seed) {
        random = new Random(seed);
    }

    private interface Call {
        double run();
    }

    public static void main(String[] args) {
        int runs = args.length > 0 ? Integer.parseInt(args[0]) : RUNS;
        for (int run = 0; run < runs; run++) {
            ModelTest test = new ModelTest(run);
            if (!test.run()) {
                System.out.println("ModelTest: run " + run + " differs:\n" + test.story);
                System.exit(1);
            }
        }
        System.out.println("ModelTest: " + runs + " runs, all answers are the model's");
    }

    private boolean run() {
        boolean isFine = true;
        for (int i = below(3); i >= 0 && isFine; i--) {
            isFine = prepare();
        }
        while (calls < CALLS && isFine) {
            isFine = any();
        }
        return isFine;
    }

    private boolean same(String name, Call real, Call due) {
        if (calls == CALLS) {
            // What later calls answer is free.
            return true;
        }
        calls++;
        String got = outcome(real);
        String wanted = outcome(due);
        story.append(name).append(" -> ").append(got);
        if (got.equals(wanted)) {
            story.append('\n');
            return true;
        }
        story.append(", due is ").append(wanted).append('\n');
        return false;
    }

    private static String outcome(Call call) {
        try {
            return String.valueOf(call.run());
        } catch (RuntimeException thrown) {
            return thrown.getClass().getName();
        }
    }

    private int below(int bound) {
        return random.nextInt(bound);
    }

    /** Mostly from the range, at times just outside. */
    private int about(int low, int high) {
        int kind = below(40);
        return kind == 0 ? low - 1 : kind == 1 ? high + 1 : kind == 2 ? low : kind == 3 ? high : low + below(high - low + 1);
    }

    /** Mostly the version by which most shipments are rated. */
    private int version() {
        if (versions == 0 || below(30) == 0) {
            return about(0, 6);
        }
        return below(2) == 0 ? Math.max(0, model.versionOn(999)) : below(versions);
    }

    private int shipment() {
        if (shipments > 0 && below(3) == 0) {
            return shipments - 1;
        }
        return shipments == 0 || below(30) == 0 ? about(0, 10) : below(shipments);
    }

    private int set() {
        int kind = below(20);
        if (kind == 0 || shipments == 0) {
            return about(0, 1024) - (below(5) == 0 ? 2000 : 0);
        }
        int set = 0;
        int chance = 1 + below(6);
        for (int s = 0; s < shipments; s++) {
            set |= below(6) < chance ? 1 << s : 0;
        }
        return set;
    }

    private boolean prepare() {
        int day = below(4) * 10;
        boolean isFine = same("makeVersion(" + day + ", -1)", () -> rater.makeVersion(day, -1), () -> model.makeVersion(day, -1))
                && refresh() && text(version(), "z1:0-999;b1:0*" + (1 + below(90)) + ";b1:100*" + (1 + below(40)) + ";s" + below(100))
                && text(version(), "z2:0-" + below(60) + ";b2:0*" + (1 + below(90)) + ";m2:" + below(3000) + ";c" + below(2000))
                && text(version(), extra()) && text(version(), statements());
        for (int i = 0; i < 3 && isFine; i++) {
            isFine = ship() && pack();
        }
        return isFine && pack();
    }

    private boolean refresh() {
        versions = 0;
        shipments = 0;
        for (int i = 0; i < 6; i++) {
            versions += outcome(() -> model.version(versions, 0)).startsWith("java") ? 0 : 1;
        }
        for (int i = 0; i < 10; i++) {
            shipments += outcome(() -> model.shipment(shipments, 0)).startsWith("java") ? 0 : 1;
        }
        return true;
    }

    private boolean text(int version, String text) {
        boolean isFine = true;
        for (int i = 0; i < text.length() && isFine; i++) {
            char character = text.charAt(i);
            isFine = same("feed('" + character + "')", () -> rater.feed(character), () -> model.feed(character));
        }
        return isFine && same("amend(" + version + ")", () -> rater.amend(version), () -> model.amend(version));
    }

    private String number(int... likely) {
        String digits = String.valueOf(below(3) == 0 ? below(10001) : likely[below(likely.length)]);
        return below(12) == 0 ? "0" + digits : digits;
    }

    private String statements() {
        StringBuilder text = new StringBuilder();
        for (int i = below(4); i >= 0; i--) {
            text.append(statement()).append(i == 0 ? "" : ";");
        }
        if (below(12) == 0 && text.length() > 0) {
            int at = below(text.length());
            char other = "zbmdfscar0123456789:;-*%?|&!<>=hwnl x".charAt(below(37));
            if (below(2) == 0) {
                text.setCharAt(at, other);
            } else if (below(2) == 0) {
                text.deleteCharAt(at);
            } else {
                text.insert(at, other);
            }
        }
        return text.length() > 82 ? text.substring(0, 82) : text.toString();
    }

    private String statement() {
        int zone = below(30) == 0 ? below(10) : 1 + below(3);
        switch (below(12)) {
            case 0: return "z" + zone + ":" + number(0, 1, 5, 20) + "-" + number(5, 30, 60, 999);
            case 1: return "b" + zone + ":" + number(0, 10, 50, 100, 200) + "*" + number(0, 1, 5, 7, 20, 99);
            case 2: return "m" + zone + ":" + number(0, 50, 500, 2000);
            case 3: return "d" + number(1000, 2000, 5000, 999);
            case 4: return "f" + number(0, 5, 10, 33, 99, 100);
            case 5: return "s" + number(0, 10, 50, 200);
            case 6: return "c" + number(50, 300, 999, 2000);
            case 7: return "r" + below(10);
            default: return extra();
        }
    }

    private String extra() {
        StringBuilder text = new StringBuilder("a").append(below(10)).append(':');
        int kind = below(3);
        text.append(number(0, 1, 5, 10, 20)).append(kind == 0 ? "" : kind == 1 ? "*" : "%");
        if (below(3) > 0) {
            text.append('?');
            for (int i = below(4); i >= 0; i--) {
                text.append(below(4) == 0 ? "-" : "").append(test()).append(i == 0 ? "" : below(2) == 0 ? "&" : "|");
            }
        }
        return text.append(below(2) == 0 ? "" : "!" + below(10)).toString();
    }

    private String test() {
        char relation = "<>=".charAt(below(3));
        switch (below(5)) {
            case 0: return "h" + below(8);
            case 1: return "w" + relation + number(10, 50, 100, 300);
            case 2: return "n" + relation + number(0, 1, 2, 3, 5);
            case 3: return "l" + relation + number(20, 50, 100, 200);
            default: return "z" + relation + number(0, 1, 2, 3);
        }
    }

    private boolean ship() {
        int place = below(8) == 0 ? about(0, 999) : below(60);
        int day = below(12) == 0 ? about(0, 999) : 30;
        int handlings = below(12) == 0 ? about(0, 255) : below(3) == 0 ? below(4) : below(64) * 4;
        int customer = about(0, 3);
        return same("ship(" + place + ", " + day + ", " + handlings + ", " + customer + ")",
                () -> rater.ship(place, day, handlings, customer), () -> model.ship(place, day, handlings, customer)) && refresh();
    }

    private boolean pack() {
        int shipment = shipment();
        int most = below(4) == 0 ? 200 : 60;
        int a = about(1, most);
        int b = about(1, most);
        int c = about(1, most);
        int weight = below(4) == 0 ? about(1, 999) : about(1, 80);
        return same("pack(" + shipment + ", " + a + ", " + b + ", " + c + ", " + weight + ")",
                () -> rater.pack(shipment, a, b, c, weight), () -> model.pack(shipment, a, b, c, weight));
    }

    private boolean any() {
        int kind = below(100);
        if (kind < 8) {
            return text(version(), statements());
        }
        if (kind < 20) {
            return change(kind);
        }
        if (kind < 40) {
            return readVersion(kind);
        }
        if (kind < 65) {
            return readGroup(kind);
        }
        return kind < 90 ? readSet(kind) : rare(kind);
    }

    private boolean change(int kind) {
        int shipment = shipment();
        int place = about(0, 99);
        int day = below(5) == 0 ? about(0, 999) : 30;
        switch (kind) {
            case 8:
                int from = about(-1, versions - 1);
                int first = about(0, 40);
                return same("makeVersion(" + first + ", " + from + ")", () -> rater.makeVersion(first, from),
                        () -> model.makeVersion(first, from)) && refresh();
            case 9: case 10:
                return ship();
            case 11:
                return same("route(" + shipment + ", " + place + ", " + day + ")", () -> rater.route(shipment, place, day),
                        () -> model.route(shipment, place, day));
            case 12:
                int handlings = about(0, 255) & (below(3) == 0 ? -1 : ~3);
                return same("handle(" + shipment + ", " + handlings + ")", () -> rater.handle(shipment, handlings),
                        () -> model.handle(shipment, handlings));
            case 13:
                int threshold = about(0, 20) * (below(2) == 0 ? 1 : 700);
                int percentage = below(3) == 0 ? 0 : about(0, 50);
                return same("setRebate(" + threshold + ", " + percentage + ")", () -> rater.setRebate(threshold, percentage),
                        () -> model.setRebate(threshold, percentage));
            case 14: case 15:
                int set = set() & (below(2) == 0 ? -1 : 7);
                return same("post(" + set + ")", () -> rater.post(set), () -> model.post(set));
            default:
                return pack();
        }
    }

    private boolean readVersion(int kind) {
        int version = version();
        int zone = below(10) == 0 ? about(1, 9) : 1 + below(3);
        int a = about(0, 9);
        switch (kind) {
            case 20: case 21: case 22:
                int what = about(0, 7);
                return same("version(" + version + ", " + what + ")", () -> rater.version(version, what),
                        () -> model.version(version, what));
            case 23: case 24: case 25:
                int place = below(3) == 0 ? about(0, 999) : below(70);
                return same("zoneOf(" + version + ", " + place + ")", () -> rater.zoneOf(version, place),
                        () -> model.zoneOf(version, place));
            case 26: case 27: case 28:
                int i = about(-1, 4);
                boolean isRate = random.nextBoolean();
                return same("breakOf(" + version + ", " + zone + ", " + i + ", " + isRate + ")",
                        () -> rater.breakOf(version, zone, i, isRate), () -> model.breakOf(version, zone, i, isRate));
            case 29: case 30: case 31: case 32:
                int property = about(0, 4);
                return same("accessorial(" + version + ", " + a + ", " + property + ")",
                        () -> rater.accessorial(version, a, property), () -> model.accessorial(version, a, property));
            case 33: case 34: case 35:
                int weight = below(3) == 0 ? about(0, 99999) : below(300);
                return same("base(" + version + ", " + zone + ", " + weight + ")",
                        () -> rater.base(version, zone, weight), () -> model.base(version, zone, weight));
            case 36:
                int day = about(0, 999);
                return same("versionOn(" + day + ")", () -> rater.versionOn(day), () -> model.versionOn(day));
            case 37:
                return same("impossible()", () -> rater.impossible(), () -> model.impossible());
            default:
                return writeAll(version, a);
        }
    }

    private boolean writeAll(int version, int a) {
        boolean isFine = same("write(" + version + ", " + a + ")", () -> rater.write(version, a), () -> model.write(version, a));
        for (int i = -1; i < 81 && isFine && below(8) > 0 && (i < 4 || model.written() > i - 3); i++) {
            int at = i;
            isFine = same("paper(" + at + ")", () -> rater.paper(at), () -> model.paper(at));
        }
        return isFine;
    }

    private boolean readGroup(int kind) {
        int group = below(3) == 0 && shipments > 0 ? 1 << below(shipments) : below(2) == 0 ? fineSet() : set();
        if (kind < 45) {
            return same("rate(" + group + ")", () -> rater.rate(group), () -> model.rate(group));
        }
        if (kind < 55) {
            int what = about(0, 9);
            return same("rating(" + group + ", " + what + ")", () -> rater.rating(group, what), () -> model.rating(group, what));
        }
        if (kind < 58) {
            return same("refuses(" + group + ")", () -> rater.refuses(group), () -> model.refuses(group));
        }
        if (kind < 60) {
            return same("meanPrice(" + group + ")", () -> rater.meanPrice(group), () -> model.meanPrice(group));
        }
        if (kind < 63) {
            int shipment = shipment();
            int what = about(0, 8);
            return same("shipment(" + shipment + ", " + what + ")", () -> rater.shipment(shipment, what),
                    () -> model.shipment(shipment, what));
        }
        boolean isDetail = random.nextBoolean();
        return same("refusal(" + isDetail + ")", () -> rater.refusal(isDetail), () -> model.refusal(isDetail));
    }

    /** The shipments of a set that can be rated alone, so that more sets can be consolidated. */
    private int fineSet() {
        int set = set();
        int fine = 0;
        for (int s = 0; s < shipments; s++) {
            int one = 1 << s;
            fine |= model.refuses(one) == 0 ? set & one : 0;
        }
        return fine == 0 || below(8) == 0 ? set : fine;
    }

    private boolean readSet(int kind) {
        int set = fineSet();
        if (kind < 70) {
            return same("consolidate(" + set + ")", () -> rater.consolidate(set), () -> model.consolidate(set));
        }
        if (kind < 77) {
            int i = about(-1, 3);
            return same("group(" + set + ", " + i + ")", () -> rater.group(set, i), () -> model.group(set, i));
        }
        if (kind < 82) {
            return same("searched(" + set + ")", () -> rater.searched(set), () -> model.searched(set));
        }
        int what = about(0, 2);
        return same("merged(" + set + ", " + what + ")", () -> rater.merged(set, what), () -> model.merged(set, what));
    }

    private boolean rare(int kind) {
        int customer = about(0, 6);
        switch (kind) {
            case 90:
                return same("saveSnapshot()", () -> rater.saveSnapshot(), () -> model.saveSnapshot());
            case 91:
                return below(3) > 0 || same("restoreSnapshot()", () -> rater.restoreSnapshot(), () -> model.restoreSnapshot()) && refresh();
            case 92: case 93: case 94:
                return same("account(" + customer + ")", () -> rater.account(customer), () -> model.account(customer));
            case 95: case 96:
                return same("rebate(" + customer + ")", () -> rater.rebate(customer), () -> model.rebate(customer));
            case 97:
                char stray = (char) below(300);
                return below(4) > 0 || same("feed(" + stray + ")", () -> rater.feed(stray), () -> model.feed(stray));
            default:
                return same("undo()", () -> rater.undo(), () -> model.undo()) && refresh();
        }
    }
}
