/** Promises 1 to 11: a new object, versions, texts, and what a version answers. */
public final class VersionsTest {
    private static final Check CHECK = new Check("VersionsTest");

    public static void main(String[] args) {
        newObject();
        makeVersion();
        copiedVersion();
        feed();
        amendCounts();
        amendFaults();
        amendEmptiesInput();
        amendExceptions();
        impossibleStatements();
        impossibleIsKept();
        statementsInOrder();
        allOrNone();
        versionOn();
        versionProperties();
        zoneOf();
        breakOf();
        accessorial();
        base();
        CHECK.end();
    }

    private static void newObject() {
        FreightRater x = new FreightRater();
        CHECK.fails("1 version(0, 0)", Check.INDEX, () -> x.version(0, 0));
        CHECK.fails("1 shipment(0, 0)", Check.INDEX, () -> x.shipment(0, 0));
        CHECK.is("1 rebate(0)", 0, () -> x.rebate(0));
        CHECK.is("1 account(4)", 0, () -> x.account(4));
        CHECK.is("1 account(5)", 0, () -> x.account(5));
        CHECK.is("1 account(6)", 0, () -> x.account(6));
        CHECK.fails("1 undo()", Check.STATE, () -> x.undo());
        CHECK.fails("1 restoreSnapshot()", Check.STATE, () -> x.restoreSnapshot());
        CHECK.fails("1 paper(0)", Check.INDEX, () -> x.paper(0));
        CHECK.fails("1 setRebate(0, 0)", Check.MISSING, () -> x.setRebate(0, 0));
        CHECK.is("1 saveSnapshot()", 0, () -> x.saveSnapshot());
    }

    private static void makeVersion() {
        FreightRater x = new FreightRater();
        CHECK.fails("2 day -1", Check.ARGUMENT, () -> x.makeVersion(-1, -1));
        CHECK.fails("2 day 1000", Check.ARGUMENT, () -> x.makeVersion(1000, -1));
        CHECK.fails("2 day before from", Check.ARGUMENT, () -> x.makeVersion(1000, 7));
        CHECK.fails("2 from 0 without versions", Check.INDEX, () -> x.makeVersion(5, 0));
        CHECK.fails("2 from -2", Check.INDEX, () -> x.makeVersion(5, -2));
        CHECK.is("2 first", 0, () -> x.makeVersion(999, -1));
        CHECK.is("2 second", 1, () -> x.makeVersion(0, 0));
        CHECK.fails("2 same day", Check.ARGUMENT, () -> x.makeVersion(0, -1));
        CHECK.fails("2 same day before from", Check.ARGUMENT, () -> x.makeVersion(999, 9));
        CHECK.fails("2 from 2", Check.INDEX, () -> x.makeVersion(7, 2));
        for (int i = 2; i < 6; i++) {
            int day = i;
            CHECK.is("2 version " + i, i, () -> x.makeVersion(day, -1));
        }
        CHECK.fails("2 seventh", Check.STATE, () -> x.makeVersion(8, -1));
        CHECK.fails("2 seventh from 5", Check.STATE, () -> x.makeVersion(8, 5));
        CHECK.fails("2 seventh from 6", Check.INDEX, () -> x.makeVersion(8, 6));
        CHECK.fails("2 seventh, same day", Check.ARGUMENT, () -> x.makeVersion(5, -1));
        CHECK.fails("7 version 6 of six", Check.INDEX, () -> x.version(6, 0));
        CHECK.fails("7 version 7 of six", Check.INDEX, () -> x.version(7, 0));
        CHECK.is("7 version 5 of six", 5, () -> x.version(5, 0));
    }

    private static void copiedVersion() {
        FreightRater x = Check.rater("z3:1-2;b3:4*5;m3:6;d1007;f8;s9;c10;a1:11*?h1&n>2!3");
        CHECK.is("2 copy", 1, () -> x.makeVersion(500, 0));
        CHECK.is("2 copy's day", 500, () -> x.version(1, 0));
        CHECK.is("2 original's day", 0, () -> x.version(0, 0));
        CHECK.is("2 copy's zone", 3, () -> x.zoneOf(1, 2));
        CHECK.is("2 copy's break", 4, () -> x.breakOf(1, 3, 0, false));
        CHECK.is("2 copy's rate", 5, () -> x.breakOf(1, 3, 0, true));
        CHECK.is("2 copy's minimum", 6, () -> x.breakOf(1, 3, -1, true));
        CHECK.is("2 copy's divisor", 1007, () -> x.version(1, 2));
        CHECK.is("2 copy's fuel", 8, () -> x.version(1, 3));
        CHECK.is("2 copy's stop charge", 9, () -> x.version(1, 4));
        CHECK.is("2 copy's capacity", 10, () -> x.version(1, 5));
        CHECK.is("2 copy's accessorials", 2, () -> x.version(1, 6));
        CHECK.is("2 copy's tests", 2, () -> x.accessorial(1, 1, 3));
        Check.amend(x, 1, "z4:1-2;b3:4*0;b3:9*9;m3:1;r1;c11");
        CHECK.is("2 original's zone stays", 3, () -> x.zoneOf(0, 2));
        CHECK.is("2 original's break stays", 4, () -> x.breakOf(0, 3, 0, false));
        CHECK.is("2 original's minimum stays", 6, () -> x.breakOf(0, 3, -1, true));
        CHECK.is("2 original's accessorials stay", 2, () -> x.version(0, 6));
        CHECK.is("2 original's ranges stay", 1, () -> x.version(0, 1));
        CHECK.is("2 empty one's divisor", 2, () -> x.makeVersion(501, -1));
        CHECK.is("2 empty one's divisor", 5000, () -> x.version(2, 2));
        CHECK.is("2 empty one's capacity", 999, () -> x.version(2, 5));
        for (int what : new int[] {1, 3, 4, 6, 7}) {
            CHECK.is("2 empty one's " + what, 0, () -> x.version(2, what));
        }
        CHECK.is("2 empty one's minimum", 0, () -> x.breakOf(2, 3, -1, true));
    }

    private static void feed() {
        FreightRater x = new FreightRater();
        for (int i = 1; i <= 80; i++) {
            CHECK.is("3 feed", i, () -> x.feed((char) 65535));
        }
        CHECK.fails("3 81st character", Check.STATE, () -> x.feed('a'));
        CHECK.fails("3 82nd character", Check.STATE, () -> x.feed('a'));
        x.makeVersion(0, -1);
        CHECK.is("3 wide characters are no text", -100, () -> x.amend(0));
        CHECK.is("3 feed after amend", 1, () -> x.feed('a'));
    }

    private static void amendCounts() {
        FreightRater x = Check.rater();
        CHECK.is("4 one", 1, () -> Check.amend(x, 0, "c0"));
        CHECK.is("4 all letters", 9, () -> Check.amend(x, 0, "z1:0-9;b1:0*1;m1:2;d1000;f1;s1;c1;a0:1;r0"));
        CHECK.is("4 conditions", 2, () -> Check.amend(x, 0, "a0:1%?-h0&w<1|n>2|-l=3&z=4!9;a9:2*!0"));
        CHECK.is("4 eighty characters", 27,
                () -> Check.amend(x, 0, "c1;c1;c1;c1;c1;c1;c1;c1;c1;c1;c1;c1;c1;c1;c1;c1;c1;c1;c1;c1;c1;c1;c1;c1;c1;c1;c1"));
        CHECK.is("4 zeros", 1, () -> Check.amend(x, 0, "c0007"));
        CHECK.is("4 zeros count nothing", 7, () -> x.version(0, 5));
        CHECK.is("4 greatest number", 1, () -> Check.amend(x, 0, "c9999"));
        CHECK.is("4 capacity", 9999, () -> x.version(0, 5));
    }

    private static void amendFaults() {
        FreightRater x = Check.rater();
        String[] texts = {"", "x", "z", "z0", "z:", "z1", "z1-", "z1:", "z1:-", "z1:5", "z1:5:", "z1:5-", "z1:5-x",
            "z1:12345-6", "b1:5", "b1:5-6", "b1:5*", "b1:5*6*", "m1", "m1:", "m1:5-", "m0:5", "d", "d;", "d12345",
            "f5;", "f5;;", "f5,", "a", "aa", "a0", "a0:", "a0:?", "a0:5%*", "a0:5*%", "a0:5**", "a0:5?", "a0:5?h",
            "a0:5?h8", "a0:5?h77", "a0:5?--h7", "a0:5?-", "a0:5?w", "a0:5?w5", "a0:5?w<", "a0:5?w<=", "a0:5?w<12345",
            "a0:5?h1&", "a0:5?h1|", "a0:5?h1||h2", "a0:5?h1&|", "a0:5!", "a0:5!x", "a0:5!12", "a0:5!1?h1", "a0:5!1!2",
            "r", "rr", "r12", "r1 ", " r1", "Z1:0-1", "a0:5?s=1", "a0:5?h<1", "c1\u0131", "\u017a1:0-1", "a0:5?z=1!1;",
            "a::5", "a/:5", "r:", "r/", "a0:5!:", "a0:5!/", "c:", "c/", "c1:", "c1/", "z::1-2", "a0:5?h/", "a0:5?w;1"};
        int[] faults = {0, 0, 1, 1, 1, 2, 2, 3, 3, 4, 4, 5, 5,
            7, 4, 4, 5, 6, 2, 3, 4, 1, 1, 1, 5,
            3, 3, 2, 1, 1, 2, 3, 3, 5, 5, 5, 5, 6,
            6, 7, 6, 6, 6, 6, 7, 7, 11,
            8, 8, 8, 8, 5, 5, 6, 6, 6,
            1, 1, 2, 2, 0, 0, 5, 6, 2, 0, 11,
            1, 1, 1, 1, 5, 5, 1, 1, 2, 2, 1, 6, 6};
        for (int i = 0; i < texts.length; i++) {
            String text = texts[i];
            CHECK.is("4 fault of '" + text + "'", -100 - faults[i], () -> Check.amend(x, 0, text));
        }
        CHECK.is("4 a fault after a good statement", -103, () -> Check.amend(x, 0, "f5;x"));
        CHECK.is("4 nothing was carried out", 0, () -> x.version(0, 3));
        CHECK.fails("4 a fault is no change", Check.STATE, () -> {
            x.undo();
            return x.undo();
        });
    }

    private static void amendEmptiesInput() {
        FreightRater x = Check.rater();
        Check.feed(x, "c5");
        CHECK.fails("4 no such version", Check.INDEX, () -> x.amend(1));
        CHECK.is("4 empty after no such version", -100, () -> x.amend(0));
        CHECK.is("4 capacity as before", 999, () -> x.version(0, 5));
        Check.amend(x, 0, "c5;");
        CHECK.is("4 empty after a fault", 1, () -> x.feed('c'));
        CHECK.fails("4 impossible", Check.UNSUPPORTED, () -> Check.amend(x, 0, "5;r0"));
        CHECK.is("4 empty after an impossible statement", 1, () -> x.feed('c'));
        CHECK.is("4 goes on", 1, () -> Check.amend(x, 0, "6"));
        CHECK.is("4 empty after success", -100, () -> x.amend(0));
        CHECK.is("4 capacity", 6, () -> x.version(0, 5));
    }

    private static void amendExceptions() {
        FreightRater x = Check.rater();
        CHECK.fails("4 version -1", Check.INDEX, () -> Check.amend(x, -1, "c5"));
        CHECK.fails("4 version 1 before a fault", Check.INDEX, () -> Check.amend(x, 1, "c"));
        CHECK.fails("4 version 1 before an impossible statement", Check.INDEX, () -> Check.amend(x, 1, "r0"));
        CHECK.fails("5 nothing was kept", Check.MISSING, () -> x.impossible());
        CHECK.is("4 a fault before an impossible statement", -103, () -> Check.amend(x, 0, "r0;"));
        CHECK.fails("5 nothing was kept", Check.MISSING, () -> x.impossible());
    }

    private static void impossibleStatements() {
        String[] possible = {"z1:0-999", "z1:5-5", "z9:999-999", "b1:0*99", "b1:9999*1", "b1:7*0", "m1:9999", "d1000",
            "d9999", "f99", "f0", "s9999", "c0", "a0:9999", "a0:99*", "a0:50%", "a0:0%", "a0:0*!0", "a9:1!9", "r5",
            "a5:1;r5", "a9:5;r9"};
        String[] not = {"z1:0-1000", "z1:1000-1000", "z1:1000-1001", "z1:6-5", "b1:0*100", "b1:8*0", "b2:7*0",
            "b2:0*0", "b1:0*9999", "d999", "d0", "f100", "f9999", "a0:100*", "a0:51%", "a0:9999*", "a0:9999%", "r4", "r0"};
        for (String text : possible) {
            FreightRater x = Check.rater("b1:7*3;a5:1");
            int statements = text.split(";").length;
            CHECK.is("4 possible " + text, statements, () -> Check.amend(x, 0, text));
        }
        for (String text : not) {
            FreightRater x = Check.rater("b1:7*3;a5:1");
            CHECK.fails("4 impossible " + text, Check.UNSUPPORTED, () -> Check.amend(x, 0, text));
        }
        FreightRater ranges = Check.rater("z1:0-9;z1:0-9;z1:0-9;z1:0-9;z1:0-9;z1:0-9", "z1:0-9;z1:0-9;z1:0-9;z1:0-9;z1:0-9");
        CHECK.is("4 twelfth range", 1, () -> Check.amend(ranges, 0, "z2:0-9"));
        CHECK.fails("4 thirteenth range", Check.UNSUPPORTED, () -> Check.amend(ranges, 0, "z3:0-9"));
        CHECK.is("4 the last range", 2, () -> ranges.zoneOf(0, 9));
        FreightRater breaks = Check.rater("b9:5*1;b9:4*1;b9:3*1;b9:2*1");
        CHECK.is("4 fifth break", 1, () -> Check.amend(breaks, 0, "b9:1*1"));
        CHECK.fails("4 sixth break", Check.UNSUPPORTED, () -> Check.amend(breaks, 0, "b9:0*1"));
        CHECK.is("4 five breaks, one set anew", 1, () -> Check.amend(breaks, 0, "b9:3*9"));
        CHECK.is("4 five breaks of another zone", 5, () -> Check.amend(breaks, 0, "b8:5*1;b8:4*1;b8:3*1;b8:2*1;b8:1*1"));
        CHECK.is("4 one removed, one new", 2, () -> Check.amend(breaks, 0, "b9:3*0;b9:0*1"));
    }

    private static void impossibleIsKept() {
        FreightRater x = Check.rater();
        CHECK.fails("5 none yet", Check.MISSING, () -> x.impossible());
        CHECK.fails("5 third", Check.UNSUPPORTED, () -> Check.amend(x, 0, "c1;c2;r0;r1"));
        CHECK.is("5 first one of two", 2, () -> x.impossible());
        CHECK.is("5 stays", 2, () -> x.impossible());
        Check.amend(x, 0, "c1");
        Check.amend(x, 0, "c1;");
        CHECK.is("5 stays after success and fault", 2, () -> x.impossible());
        CHECK.fails("5 first statement", Check.UNSUPPORTED, () -> Check.amend(x, 0, "r0"));
        CHECK.is("5 another one", 0, () -> x.impossible());
        x.undo();
        CHECK.is("5 is not undone", 0, () -> x.impossible());
        x.saveSnapshot();
        CHECK.fails("5 second statement", Check.UNSUPPORTED, () -> Check.amend(x, 0, "c1;f100"));
        x.restoreSnapshot();
        CHECK.is("5 is not restored", 1, () -> x.impossible());
    }

    private static void statementsInOrder() {
        FreightRater x = Check.rater("c1;c2;c3", "a1:1;r1;a1:2", "b1:5*5;b1:5*0;b1:5*6;b1:5*7");
        CHECK.is("4 the last one counts", 3, () -> x.version(0, 5));
        CHECK.is("4 set, removed, set", 2, () -> x.accessorial(0, 1, 0));
        CHECK.is("4 one break", 1, () -> x.breakOf(0, 1, -1, false));
        CHECK.is("4 its last rate", 7, () -> x.breakOf(0, 1, 0, true));
        Check.amend(x, 0, "a1:5%?h1|h2!3;a1:6");
        CHECK.is("4 in place of what it was: kind", 0, () -> x.accessorial(0, 1, 1));
        CHECK.is("4 in place of what it was: rows", 0, () -> x.accessorial(0, 1, 2));
        CHECK.is("4 in place of what it was: excluded", -1, () -> x.accessorial(0, 1, 4));
    }

    private static void allOrNone() {
        FreightRater x = Check.rater("z1:0-9;b1:5*5;m1:3;a1:4");
        CHECK.fails("4 all or none", Check.UNSUPPORTED,
                () -> Check.amend(x, 0, "z2:0-9;b1:5*6;b1:6*6;m1:4;d2000;f1;s1;c1;a1:5;a2:1;r2;r2"));
        CHECK.is("4 ranges stay", 1, () -> x.version(0, 1));
        CHECK.is("4 rate stays", 5, () -> x.breakOf(0, 1, 0, true));
        CHECK.is("4 breaks stay", 1, () -> x.version(0, 7));
        CHECK.is("4 minimum stays", 3, () -> x.breakOf(0, 1, -1, true));
        CHECK.is("4 divisor stays", 5000, () -> x.version(0, 2));
        CHECK.is("4 fuel stays", 0, () -> x.version(0, 3));
        CHECK.is("4 stop charge stays", 0, () -> x.version(0, 4));
        CHECK.is("4 capacity stays", 999, () -> x.version(0, 5));
        CHECK.is("4 accessorials stay", 2, () -> x.version(0, 6));
        CHECK.is("4 charge stays", 4, () -> x.accessorial(0, 1, 0));
    }

    private static void versionOn() {
        FreightRater x = new FreightRater();
        CHECK.fails("6 day -1 before none", Check.ARGUMENT, () -> x.versionOn(-1));
        CHECK.fails("6 none", Check.MISSING, () -> x.versionOn(999));
        x.makeVersion(100, -1);
        x.makeVersion(300, -1);
        x.makeVersion(200, -1);
        CHECK.fails("6 day 1000", Check.ARGUMENT, () -> x.versionOn(1000));
        CHECK.fails("6 day 99", Check.MISSING, () -> x.versionOn(99));
        CHECK.is("6 day 100", 0, () -> x.versionOn(100));
        CHECK.is("6 day 199", 0, () -> x.versionOn(199));
        CHECK.is("6 day 200", 2, () -> x.versionOn(200));
        CHECK.is("6 day 299", 2, () -> x.versionOn(299));
        CHECK.is("6 day 300", 1, () -> x.versionOn(300));
        CHECK.is("6 day 999", 1, () -> x.versionOn(999));
        x.makeVersion(0, -1);
        CHECK.is("6 day 0", 3, () -> x.versionOn(0));
    }

    private static void versionProperties() {
        FreightRater x = new FreightRater();
        CHECK.fails("7 no version before what", Check.INDEX, () -> x.version(0, 8));
        x.makeVersion(17, -1);
        Check.amend(x, 0, "z1:0-9;z2:0-9;d1234;f12;s34;c56;a0:1;a9:1;b1:0*1;b1:5*1;b9:0*1");
        int[] due = {17, 2, 1234, 12, 34, 56, 513, 3};
        for (int what = 0; what < due.length; what++) {
            int asked = what;
            CHECK.is("7 what " + what, due[what], () -> x.version(0, asked));
        }
        CHECK.fails("7 what 8", Check.ARGUMENT, () -> x.version(0, 8));
        CHECK.fails("7 what -1", Check.ARGUMENT, () -> x.version(0, -1));
        CHECK.fails("7 version -1", Check.INDEX, () -> x.version(-1, 0));
        CHECK.fails("7 version 1", Check.INDEX, () -> x.version(1, 0));
    }

    private static void zoneOf() {
        FreightRater x = Check.rater("z1:10-20;z2:20-30;z3:15-15;z9:999-999;z8:0-0");
        int[] places = {10, 14, 15, 16, 19, 20, 30, 999, 0};
        int[] zones = {1, 1, 3, 1, 1, 2, 2, 9, 8};
        for (int i = 0; i < places.length; i++) {
            int place = places[i];
            CHECK.is("8 place " + place, zones[i], () -> x.zoneOf(0, place));
        }
        for (int place : new int[] {1, 9, 31, 998}) {
            CHECK.fails("8 place " + place, Check.MISSING, () -> x.zoneOf(0, place));
        }
        CHECK.fails("8 place -1", Check.INDEX, () -> x.zoneOf(0, -1));
        CHECK.fails("8 place 1000", Check.INDEX, () -> x.zoneOf(0, 1000));
        CHECK.fails("8 version -1", Check.INDEX, () -> x.zoneOf(-1, 10));
        CHECK.fails("8 version 1", Check.INDEX, () -> x.zoneOf(1, 10));
    }

    private static void breakOf() {
        FreightRater x = Check.rater("b1:50*3;b1:0*5;b1:100*1;b1:20*4;m1:77;m9:88;b9:1*2");
        int[] weights = {0, 20, 50, 100};
        int[] rates = {5, 4, 3, 1};
        for (int i = 0; i < 4; i++) {
            int asked = i;
            CHECK.is("9 weight " + i, weights[i], () -> x.breakOf(0, 1, asked, false));
            CHECK.is("9 rate " + i, rates[i], () -> x.breakOf(0, 1, asked, true));
        }
        CHECK.is("9 number", 4, () -> x.breakOf(0, 1, -1, false));
        CHECK.is("9 minimum", 77, () -> x.breakOf(0, 1, -1, true));
        CHECK.is("9 number without breaks", 0, () -> x.breakOf(0, 2, -1, false));
        CHECK.is("9 minimum without one", 0, () -> x.breakOf(0, 2, -1, true));
        CHECK.is("9 zone 9", 2, () -> x.breakOf(0, 9, 0, true));
        CHECK.is("9 minimum of zone 9", 88, () -> x.breakOf(0, 9, -1, true));
        CHECK.fails("9 break 4", Check.INDEX, () -> x.breakOf(0, 1, 4, true));
        CHECK.fails("9 break -2", Check.INDEX, () -> x.breakOf(0, 1, -2, true));
        CHECK.fails("9 zone 0", Check.INDEX, () -> x.breakOf(0, 0, -1, true));
        CHECK.fails("9 zone 10", Check.INDEX, () -> x.breakOf(0, 10, -1, true));
        CHECK.fails("9 version 1", Check.INDEX, () -> x.breakOf(1, 1, -1, true));
        CHECK.fails("9 version -1", Check.INDEX, () -> x.breakOf(-1, 1, -1, true));
        Check.amend(x, 0, "b1:20*0;b1:100*0;b1:60*9");
        int[] left = {0, 50, 60};
        int[] leftRates = {5, 3, 9};
        for (int i = 0; i < 3; i++) {
            int asked = i;
            CHECK.is("9 weight left " + i, left[i], () -> x.breakOf(0, 1, asked, false));
            CHECK.is("9 rate left " + i, leftRates[i], () -> x.breakOf(0, 1, asked, true));
        }
        CHECK.fails("9 break 3", Check.INDEX, () -> x.breakOf(0, 1, 3, false));
    }

    private static void accessorial() {
        FreightRater x = Check.rater("a0:7;a1:8*?h1;a2:9%?h1&w<5|n=2|-z>3&l=4&h0!9;a9:0!0");
        int[][] due = {{7, 0, 0, 0, -1}, {8, 1, 1, 1, -1}, {9, 2, 3, 6, 9}};
        for (int a = 0; a < due.length; a++) {
            for (int what = 0; what < 5; what++) {
                int asked = a;
                int property = what;
                CHECK.is("10 accessorial " + a + ", " + what, due[a][what], () -> x.accessorial(0, asked, property));
            }
        }
        CHECK.is("10 accessorial 9 excludes", 0, () -> x.accessorial(0, 9, 4));
        CHECK.fails("10 version before accessorial", Check.INDEX, () -> x.accessorial(1, 3, 5));
        CHECK.fails("10 version -1", Check.INDEX, () -> x.accessorial(-1, 0, 0));
        CHECK.fails("10 missing before what", Check.MISSING, () -> x.accessorial(0, 3, 5));
        CHECK.fails("10 accessorial 10", Check.MISSING, () -> x.accessorial(0, 10, 0));
        CHECK.fails("10 accessorial -1", Check.MISSING, () -> x.accessorial(0, -1, 0));
        CHECK.fails("10 what 5", Check.ARGUMENT, () -> x.accessorial(0, 0, 5));
        CHECK.fails("10 what -1", Check.ARGUMENT, () -> x.accessorial(0, 0, -1));
        Check.amend(x, 0, "r0");
        CHECK.fails("10 removed", Check.MISSING, () -> x.accessorial(0, 0, 0));
    }

    private static void base() {
        FreightRater x = Check.rater("b1:10*20;b1:100*10;m1:250;m3:7;b9:0*99");
        int[] weights = {0, 10, 12, 13, 50, 51, 99, 100, 101, 99999};
        int[] due = {250, 250, 250, 260, 1000, 1000, 1000, 1000, 1010, 999990};
        for (int i = 0; i < weights.length; i++) {
            int weight = weights[i];
            CHECK.is("11 weight " + weight, due[i], () -> x.base(0, 1, weight));
        }
        CHECK.is("11 greatest", 99999 * 99, () -> x.base(0, 9, 99999));
        CHECK.is("11 nothing", 0, () -> x.base(0, 9, 0));
        CHECK.fails("11 no breaks", Check.MISSING, () -> x.base(0, 3, 5));
        CHECK.fails("11 weight before no breaks", Check.ARGUMENT, () -> x.base(0, 3, -1));
        CHECK.fails("11 weight 100000", Check.ARGUMENT, () -> x.base(0, 1, 100000));
        CHECK.fails("11 zone before weight", Check.INDEX, () -> x.base(0, 0, -1));
        CHECK.fails("11 zone 10", Check.INDEX, () -> x.base(0, 10, 5));
        CHECK.fails("11 version 1", Check.INDEX, () -> x.base(1, 1, 5));
        CHECK.fails("11 version -1", Check.INDEX, () -> x.base(-1, 1, 5));
    }
}
