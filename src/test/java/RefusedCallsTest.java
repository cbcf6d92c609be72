import java.util.LinkedHashMap;
import java.util.Map;

/**
 * A test for each call that is refused, and for each that only reads: which exception it throws, and that it changes
 * nothing but what the document says - not the state, not what can be undone or restored, and not what is kept.
 */
public final class RefusedCallsTest {
    private static final Check CHECK = new Check("RefusedCallsTest");
    private static final int MOST_UNDONE = 8;

    private interface Maker {
        FreightRater make();
    }

    private interface Call {
        double on(FreightRater rater);
    }

    private static final Map<Maker, Map<String, String>> PICTURES = new LinkedHashMap<>();
    private static final Maker EMPTY = FreightRater::new;
    private static final Maker FILLED = RefusedCallsTest::filled;
    private static final Maker WITHOUT_INPUT = RefusedCallsTest::withoutInput;
    private static final Maker WITHOUT_SNAPSHOT = () -> begun(false);
    private static final Maker UNDONE = RefusedCallsTest::undone;
    private static final Maker FULL = RefusedCallsTest::full;

    public static void main(String[] args) {
        makeVersion();
        feed();
        amend();
        versions();
        accessorials();
        shipments();
        posted();
        groups();
        sets();
        posts();
        accounts();
        undo();
        writing();
        readings();
        onlyOneThing();
        CHECK.end();
    }

    // ---- raters with something of everything

    private static FreightRater begun(boolean isSaved) {
        FreightRater x = new FreightRater();
        x.makeVersion(100, -1);
        Check.amend(x, 0, "z1:0-99;z2:50-59;b1:0*9;b1:50*5;m1:200;b2:0*7;s30;f10;c300");
        Check.amend(x, 0, "d2000;a1:5*?w>40&-h2|n=3!4;a4:10%;a7:99!7");
        x.makeVersion(200, 0);
        x.pack(x.ship(10, 100, 4, 0), 10, 20, 30, 40);
        x.pack(x.ship(20, 100, 9, 1), 50, 40, 30, 20);
        x.ship(30, 150, 0, 2);
        x.pack(x.ship(500, 100, 1, 3), 1, 1, 1, 1);
        x.post(1);
        x.setRebate(10, 5);
        if (isSaved) {
            x.saveSnapshot();
        }
        x.setRebate(1000, 20);
        x.route(2, 31, 151);
        x.handle(1, 8);
        x.pack(1, 1, 2, 3, 4);
        Check.amend(x, 1, "r7;a8:1");
        x.route(1, 21, 100);
        return x;
    }

    /** A reason, an impossible statement and a paper are kept, too. */
    private static FreightRater withoutInput() {
        FreightRater x = begun(true);
        CHECK.fails("rate(4)", Check.STATE, () -> x.rate(4));
        CHECK.fails("amend(0)", Check.UNSUPPORTED, () -> Check.amend(x, 0, "c5;r0"));
        x.write(0, 1);
        return x;
    }

    private static FreightRater filled() {
        FreightRater x = withoutInput();
        Check.feed(x, "c12");
        return x;
    }

    private static FreightRater undone() {
        FreightRater x = filled();
        for (int i = 0; i < MOST_UNDONE; i++) {
            x.undo();
        }
        return x;
    }

    private static FreightRater full() {
        FreightRater x = Check.rater("z1:0-9;z1:0-9;z1:0-9;z1:0-9;z1:0-9;z1:0-9", "z1:0-9;z1:0-9;z1:0-9;z1:0-9;z1:0-9;z1:0-9",
                "b1:0*5;b1:1*4;b1:2*3;b1:3*2;b1:4*1;a0:1");
        for (int day = 1; day < 6; day++) {
            x.makeVersion(day, -1);
        }
        x.saveSnapshot();
        for (int i = 0; i < 10; i++) {
            Check.load(x, i + 1, 0, i % 4);
        }
        for (int i = 0; i < 4; i++) {
            x.pack(1, 1, 1, 1, 1);
        }
        for (int i = 1; i <= 5; i++) {
            x.setRebate(10 * i, i);
        }
        x.post(1);
        Check.feed(x, "c1;c2;c3;c4;c5;c6;c7;c8;c9;c1;c2;c3;c4;c5;c6;c7;c8;c9;c1;c2;c3;c4;c5;c6;c7;c8;c9");
        return x;
    }

    // ---- what can be read of them: now, after undoing, after restoring

    private static Map<String, String> picture(Maker maker) {
        Map<String, String> picture = new LinkedHashMap<>();
        View.KEPT.forEach((name, reading) -> picture.put(name, reading.of(maker.make())));
        for (int undone = 0; undone <= MOST_UNDONE + 1; undone++) {
            int times = undone;
            View.STATE.forEach((name, reading) -> picture.put(name + " after undo " + times, afterUndo(maker, times, reading)));
        }
        View.STATE.forEach((name, reading) -> picture.put("snapshot, " + name, afterRestore(maker, reading)));
        return picture;
    }

    private static String afterUndo(Maker maker, int times, View.Reading reading) {
        FreightRater x = maker.make();
        StringBuilder text = new StringBuilder();
        for (int i = 0; i < times; i++) {
            try {
                text.append(x.undo()).append(' ');
            } catch (IllegalStateException thrown) {
                text.append("none ");
            }
        }
        return text + reading.of(x);
    }

    private static String afterRestore(Maker maker, View.Reading reading) {
        FreightRater x = maker.make();
        try {
            return x.restoreSnapshot() + " " + reading.of(x);
        } catch (IllegalStateException thrown) {
            return "none " + reading.of(x);
        }
    }

    /** The call, made on such a rater, changes nothing that can be read but what begins with one of these names. */
    private static void changesOnly(Maker maker, Call call, String... names) {
        Map<String, String> before = PICTURES.computeIfAbsent(maker, RefusedCallsTest::picture);
        Map<String, String> after = picture(() -> {
            FreightRater x = maker.make();
            tried(call, x);
            return x;
        });
        for (Map.Entry<String, String> entry : before.entrySet()) {
            boolean mayChange = false;
            for (String name : names) {
                mayChange = mayChange || entry.getKey().startsWith(name);
            }
            if (!mayChange) {
                CHECK.reads(entry.getKey(), entry.getValue(), after.get(entry.getKey()));
            }
        }
    }

    /** Whether the call throws the right exception is asked for elsewhere. */
    private static boolean tried(Call call, FreightRater rater) {
        try {
            call.on(rater);
            return true;
        } catch (RuntimeException thrown) {
            return false;
        }
    }

    private static void refused(String name, Class<? extends RuntimeException> due, Maker maker, Call call, String... changed) {
        CHECK.test(name + " is refused and changes nothing" + (changed.length > 0 ? " but " + changed[0] : ""), () -> {
            FreightRater x = maker.make();
            CHECK.fails("the call", due, () -> call.on(x));
            changesOnly(maker, call, changed);
        });
    }

    private static void answered(String name, double due, Maker maker, Call call, String... changed) {
        CHECK.test(name + " changes nothing" + (changed.length > 0 ? " but " + changed[0] : ""), () -> {
            FreightRater x = maker.make();
            CHECK.is("the call", due, () -> call.on(x));
            changesOnly(maker, call, changed);
        });
    }

    // ---- the calls

    private static void makeVersion() {
        refused("2 makeVersion: day -1", Check.ARGUMENT, FILLED, x -> x.makeVersion(-1, -1));
        refused("2 makeVersion: day 1000", Check.ARGUMENT, FILLED, x -> x.makeVersion(1000, 0));
        refused("2 makeVersion: the day of another version", Check.ARGUMENT, FILLED, x -> x.makeVersion(200, 0));
        refused("2 makeVersion: from no version", Check.INDEX, FILLED, x -> x.makeVersion(300, 2));
        refused("2 makeVersion: from -2", Check.INDEX, FILLED, x -> x.makeVersion(300, -2));
        refused("2 makeVersion: a seventh", Check.STATE, FULL, x -> x.makeVersion(300, -1));
        refused("2 makeVersion: from no version of a new object", Check.INDEX, EMPTY, x -> x.makeVersion(300, 0));
    }

    private static void feed() {
        refused("3 feed: an 81st character", Check.STATE, FULL, x -> x.feed(';'));
    }

    private static void amend() {
        refused("4 amend: no such version", Check.INDEX, WITHOUT_INPUT, x -> Check.amend(x, 2, "c5"));
        refused("4 amend: version -1", Check.INDEX, WITHOUT_INPUT, x -> Check.amend(x, -1, "c5"));
        answered("4 amend: an empty input", -100, WITHOUT_INPUT, x -> x.amend(0));
        answered("4 amend: a fault at the end", -106, WITHOUT_INPUT, x -> Check.amend(x, 0, "c5;r1;"));
        answered("4 amend: a fault behind an impossible statement", -105, WITHOUT_INPUT, x -> Check.amend(x, 0, "c5;r0!"));
        String[] impossible = {"z1:0-1000", "z1:5-4", "b1:0*100", "b1:7*0", "d999", "f100", "a0:100*", "a0:51%", "r0"};
        for (String text : impossible) {
            refused("4 amend: impossible " + text, Check.UNSUPPORTED, WITHOUT_INPUT,
                    x -> Check.amend(x, 0, "z9:0-99;b1:0*0;m1:9;a1:0;r4;c1;" + text), "impossible");
        }
        refused("4 amend: a thirteenth range", Check.UNSUPPORTED, WITHOUT_INPUT,
                x -> Check.amend(x, 0, "z9:0-9;z9:0-9;z9:0-9;z9:0-9;z9:0-9;z9:0-9;z9:0-9;z9:0-9;z9:0-9;z9:0-9;z9:0-9"), "impossible");
        refused("4 amend: a sixth break", Check.UNSUPPORTED, WITHOUT_INPUT,
                x -> Check.amend(x, 0, "b1:1*9;b1:2*9;b1:3*9;b1:0*1;b1:4*9"), "impossible");
        refused("5 impossible: none was found", Check.MISSING, EMPTY, x -> x.impossible());
    }

    private static void versions() {
        refused("6 versionOn: day -1", Check.ARGUMENT, FILLED, x -> x.versionOn(-1));
        refused("6 versionOn: day 1000", Check.ARGUMENT, FILLED, x -> x.versionOn(1000));
        refused("6 versionOn: no version", Check.MISSING, FILLED, x -> x.versionOn(99));
        refused("7 version: no such version", Check.INDEX, FILLED, x -> x.version(2, 0));
        refused("7 version: what 8", Check.ARGUMENT, FILLED, x -> x.version(0, 8));
        refused("8 zoneOf: no such version", Check.INDEX, FILLED, x -> x.zoneOf(-1, 0));
        refused("8 zoneOf: no such place", Check.INDEX, FILLED, x -> x.zoneOf(0, 1000));
        refused("8 zoneOf: no zone", Check.MISSING, FILLED, x -> x.zoneOf(0, 100));
        refused("9 breakOf: no such version", Check.INDEX, FILLED, x -> x.breakOf(2, 1, -1, true));
        refused("9 breakOf: no such zone", Check.INDEX, FILLED, x -> x.breakOf(0, 10, -1, true));
        refused("9 breakOf: no such break", Check.INDEX, FILLED, x -> x.breakOf(0, 1, 2, false));
        refused("11 base: no such version", Check.INDEX, FILLED, x -> x.base(2, 1, 5));
        refused("11 base: no such zone", Check.INDEX, FILLED, x -> x.base(0, 0, 5));
        refused("11 base: weight 100000", Check.ARGUMENT, FILLED, x -> x.base(0, 1, 100000));
        refused("11 base: no breaks", Check.MISSING, FILLED, x -> x.base(0, 3, 5));
    }

    private static void accessorials() {
        refused("10 accessorial: no such version", Check.INDEX, FILLED, x -> x.accessorial(2, 1, 0));
        refused("10 accessorial: accessorial 10", Check.MISSING, FILLED, x -> x.accessorial(0, 10, 0));
        refused("10 accessorial: it is missing", Check.MISSING, FILLED, x -> x.accessorial(0, 0, 0));
        refused("10 accessorial: what 5", Check.ARGUMENT, FILLED, x -> x.accessorial(0, 1, 5));
    }

    private static void shipments() {
        refused("12 ship: place", Check.ARGUMENT, FILLED, x -> x.ship(1000, 0, 0, 0));
        refused("12 ship: day", Check.ARGUMENT, FILLED, x -> x.ship(0, -1, 0, 0));
        refused("12 ship: handlings", Check.ARGUMENT, FILLED, x -> x.ship(0, 0, 256, 0));
        refused("12 ship: customer", Check.ARGUMENT, FILLED, x -> x.ship(0, 0, 0, 4));
        refused("12 ship: an eleventh", Check.STATE, FULL, x -> x.ship(0, 0, 0, 0));
        refused("13 pack: no such shipment", Check.INDEX, FILLED, x -> x.pack(4, 1, 1, 1, 1));
        refused("13 pack: length", Check.ARGUMENT, FILLED, x -> x.pack(1, 201, 1, 1, 1));
        refused("13 pack: width", Check.ARGUMENT, FILLED, x -> x.pack(1, 1, 0, 1, 1));
        refused("13 pack: height", Check.ARGUMENT, FILLED, x -> x.pack(1, 1, 1, 201, 1));
        refused("13 pack: weight", Check.ARGUMENT, FILLED, x -> x.pack(1, 1, 1, 1, 1000));
        refused("13 pack: a sixth piece", Check.STATE, FULL, x -> x.pack(1, 1, 1, 1, 1));
        refused("14 route: no such shipment", Check.INDEX, FILLED, x -> x.route(4, 0, 0));
        refused("14 route: place", Check.ARGUMENT, FILLED, x -> x.route(1, -1, 0));
        refused("14 route: day", Check.ARGUMENT, FILLED, x -> x.route(1, 0, 1000));
        refused("15 handle: no such shipment", Check.INDEX, FILLED, x -> x.handle(4, 0));
        refused("15 handle: handlings", Check.ARGUMENT, FILLED, x -> x.handle(1, 256));
        refused("16 shipment: no such shipment", Check.INDEX, FILLED, x -> x.shipment(4, 0));
        refused("16 shipment: what 9", Check.ARGUMENT, FILLED, x -> x.shipment(0, 9));
    }

    private static void posted() {
        refused("13 pack: it is posted", Check.STATE, FILLED, x -> x.pack(0, 1, 1, 1, 1));
        refused("14 route: it is posted", Check.STATE, FILLED, x -> x.route(0, 1, 1));
        refused("15 handle: it is posted", Check.STATE, FILLED, x -> x.handle(0, 1));
        refused("26 post: it is posted", Check.UNSUPPORTED, FILLED, x -> x.post(1));
        refused("26 post: one of two is posted", Check.UNSUPPORTED, FILLED, x -> x.post(3));
        refused("26 post: one is posted and one refused", Check.UNSUPPORTED, FILLED, x -> x.post(9));
    }

    private static void groups() {
        for (int group : new int[] {0, 16, -1}) {
            refused("17 rate: group " + group, Check.INDEX, FILLED, x -> x.rate(group));
            refused("18 rating: group " + group, Check.INDEX, FILLED, x -> x.rating(group, 0));
            refused("19 refuses: group " + group, Check.INDEX, FILLED, x -> x.refuses(group));
            refused("21 meanPrice: group " + group, Check.INDEX, FILLED, x -> x.meanPrice(group));
        }
        refused("17 rate: a refused group", Check.STATE, FILLED, x -> x.rate(8), "refusal");
        refused("18 rating: a refused group", Check.STATE, FILLED, x -> x.rating(8, 0));
        refused("18 rating: what 10", Check.ARGUMENT, FILLED, x -> x.rating(1, 10));
        refused("21 meanPrice: a refused group", Check.STATE, FILLED, x -> x.meanPrice(8));
        refused("20 refusal: none was kept", Check.MISSING, EMPTY, x -> x.refusal(false));
        refused("20 refusal: no detail was kept", Check.MISSING, EMPTY, x -> x.refusal(true));
    }

    private static void sets() {
        for (int set : new int[] {0, 16, -1}) {
            refused("22 consolidate: set " + set, Check.INDEX, FILLED, x -> x.consolidate(set));
            refused("23 group: set " + set, Check.INDEX, FILLED, x -> x.group(set, 0));
            refused("24 searched: set " + set, Check.INDEX, FILLED, x -> x.searched(set));
            refused("25 merged: set " + set, Check.INDEX, FILLED, x -> x.merged(set, 0));
        }
        refused("22 consolidate: nine shipments", Check.ARGUMENT, FULL, x -> x.consolidate(511));
        refused("23 group: nine shipments", Check.ARGUMENT, FULL, x -> x.group(511, 0));
        refused("24 searched: seven shipments", Check.ARGUMENT, FULL, x -> x.searched(127));
        refused("25 merged: nine shipments", Check.ARGUMENT, FULL, x -> x.merged(511, 0));
        refused("22 consolidate: a refused shipment", Check.STATE, FILLED, x -> x.consolidate(10), "refusal");
        refused("23 group: a refused shipment", Check.STATE, FILLED, x -> x.group(10, 0));
        refused("24 searched: a refused shipment", Check.STATE, FILLED, x -> x.searched(10));
        refused("25 merged: a refused shipment", Check.STATE, FILLED, x -> x.merged(10, 0));
        refused("23 group: no such group", Check.MISSING, FILLED, x -> x.group(3, 2));
        refused("25 merged: what 3", Check.ARGUMENT, FILLED, x -> x.merged(3, 3));
    }

    private static void posts() {
        for (int set : new int[] {0, 16, -1}) {
            refused("26 post: set " + set, Check.INDEX, FILLED, x -> x.post(set));
        }
        refused("26 post: nine shipments", Check.ARGUMENT, FULL, x -> x.post(1022));
        refused("26 post: a refused shipment", Check.STATE, FILLED, x -> x.post(10), "refusal");
        refused("26 post: only refused shipments", Check.STATE, FILLED, x -> x.post(12), "refusal");
    }

    private static void accounts() {
        refused("27 account: customer -1", Check.ARGUMENT, FILLED, x -> x.account(-1));
        refused("27 account: customer 7", Check.ARGUMENT, FILLED, x -> x.account(7));
        refused("28 setRebate: threshold -1", Check.ARGUMENT, FILLED, x -> x.setRebate(-1, 5));
        refused("28 setRebate: percentage -1", Check.ARGUMENT, FILLED, x -> x.setRebate(10, -1));
        refused("28 setRebate: percentage 51", Check.ARGUMENT, FILLED, x -> x.setRebate(10, 51));
        refused("28 setRebate: no such step", Check.MISSING, FILLED, x -> x.setRebate(20, 0));
        refused("28 setRebate: a sixth step", Check.STATE, FULL, x -> x.setRebate(60, 6));
        refused("29 rebate: customer -1", Check.ARGUMENT, FILLED, x -> x.rebate(-1));
        refused("29 rebate: customer 4", Check.ARGUMENT, FILLED, x -> x.rebate(4));
    }

    private static void undo() {
        refused("30 undo: there is none", Check.STATE, EMPTY, x -> x.undo());
        refused("30 undo: all 8 are undone", Check.STATE, UNDONE, x -> x.undo());
        refused("32 restoreSnapshot: none was saved", Check.STATE, EMPTY, x -> x.restoreSnapshot());
        refused("32 restoreSnapshot: none was saved, with much to undo", Check.STATE, WITHOUT_SNAPSHOT, x -> x.restoreSnapshot());
    }

    private static void writing() {
        refused("33 write: no such version", Check.INDEX, FILLED, x -> x.write(2, 1));
        refused("33 write: accessorial 10", Check.MISSING, FILLED, x -> x.write(0, 10));
        refused("33 write: it is missing", Check.MISSING, FILLED, x -> x.write(0, 0));
        refused("34 paper: position -1", Check.INDEX, FILLED, x -> x.paper(-1));
        refused("34 paper: behind the text", Check.INDEX, FILLED, x -> x.paper(20));
        answered("34 paper: the last position", '4', FILLED, x -> x.paper(19));
    }

    private static void readings() {
        answered("5 impossible()", 1, FILLED, x -> x.impossible());
        answered("6 versionOn(199)", 0, FILLED, x -> x.versionOn(199));
        answered("7 version(0, 7)", 3, FILLED, x -> x.version(0, 7));
        answered("8 zoneOf(0, 99)", 1, FILLED, x -> x.zoneOf(0, 99));
        answered("9 breakOf(0, 1, 1, true)", 5, FILLED, x -> x.breakOf(0, 1, 1, true));
        answered("10 accessorial(0, 1, 3)", 3, FILLED, x -> x.accessorial(0, 1, 3));
        answered("11 base(0, 1, 50)", 250, FILLED, x -> x.base(0, 1, 50));
        answered("16 shipment(1, 5)", 24, FILLED, x -> x.shipment(1, 5));
        answered("17 rate(1)", 411, FILLED, x -> x.rate(1));
        answered("18 rating(1, 4)", 40, FILLED, x -> x.rating(1, 4));
        answered("19 refuses(8), a refused group", 4, FILLED, x -> x.refuses(8));
        answered("20 refusal(false)", 1, FILLED, x -> x.refusal(false));
        answered("21 meanPrice(1)", 411.0 / 40, FILLED, x -> x.meanPrice(1));
        answered("22 consolidate(1)", 411, FILLED, x -> x.consolidate(1));
        answered("22 consolidate of eight", 53, FULL, x -> x.consolidate(1020));
        answered("23 group of eight", 1020, FULL, x -> x.group(1020, 0));
        answered("24 searched of six", 46, FULL, x -> x.searched(1008));
        answered("25 merged of eight", 1, FULL, x -> x.merged(1020, 1));
        answered("27 account(4)", 411, FILLED, x -> x.account(4));
        answered("29 rebate(0)", 21, FILLED, x -> x.rebate(0));
    }

    private static void onlyOneThing() {
        answered("3 feed", 4, FILLED, x -> x.feed('4'), "input");
        answered("33 write", 6, FILLED, x -> x.write(0, 4), "paper");
        answered("31 saveSnapshot", 4, FILLED, x -> x.saveSnapshot(), "snapshot");
    }
}
