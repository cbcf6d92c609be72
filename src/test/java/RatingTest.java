/** Promises 17 to 21: groups, why they are refused, and what they cost. */
public final class RatingTest {
    private static final Check CHECK = new Check("RatingTest");

    public static void main(String[] args) {
        groups();
        refusedWithoutPieces();
        refusedForDays();
        refusedForVersion();
        refusedForZones();
        refusedForBreaks();
        refusedForCapacity();
        refusedForHandlings();
        orderOfReasons();
        refusalIsKept();
        weights();
        breaks();
        conditions();
        rowsAndTests();
        accessorials();
        roundedPercentages();
        parts();
        versionOfDay();
        greatGroup();
        meanPrice();
        CHECK.end();
    }

    private static void groups() {
        FreightRater x = Check.rater("z1:0-9;b1:0*1");
        for (int group : new int[] {0, 1, -1, Integer.MIN_VALUE}) {
            noGroup(x, group);
        }
        Check.load(x, 5, 0, 0);
        Check.load(x, 6, 0, 0);
        for (int group : new int[] {0, 4, 5, 7, -1, Integer.MIN_VALUE, Integer.MIN_VALUE + 1, 1 << 30}) {
            noGroup(x, group);
        }
        CHECK.is("17 rate(1)", 5, () -> x.rate(1));
        CHECK.is("17 rate(2)", 6, () -> x.rate(2));
        CHECK.is("17 rate(3)", 11, () -> x.rate(3));
        CHECK.fails("18 what 10", Check.ARGUMENT, () -> x.rating(1, 10));
        CHECK.fails("18 what -1", Check.ARGUMENT, () -> x.rating(1, -1));
        x.ship(0, 0, 0, 0);
        CHECK.fails("18 what before refused", Check.ARGUMENT, () -> x.rating(4, 10));
        CHECK.fails("18 refused", Check.STATE, () -> x.rating(4, 0));
        CHECK.fails("21 refused", Check.STATE, () -> x.meanPrice(4));
    }

    private static void noGroup(FreightRater x, int group) {
        CHECK.fails("17 rate " + group, Check.INDEX, () -> x.rate(group));
        CHECK.fails("18 rating " + group, Check.INDEX, () -> x.rating(group, 0));
        CHECK.fails("18 rating before what " + group, Check.INDEX, () -> x.rating(group, 10));
        CHECK.fails("19 refuses " + group, Check.INDEX, () -> x.refuses(group));
        CHECK.fails("21 meanPrice " + group, Check.INDEX, () -> x.meanPrice(group));
    }

    /** The group is refused so, by each call, and only rate keeps why. */
    private static void refused(FreightRater x, int group, int reason, int detail) {
        CHECK.is("19 refuses " + group, reason, () -> x.refuses(group));
        CHECK.fails("18 rating " + group, Check.STATE, () -> x.rating(group, 0));
        CHECK.fails("21 meanPrice " + group, Check.STATE, () -> x.meanPrice(group));
        CHECK.fails("17 rate " + group, Check.STATE, () -> x.rate(group));
        CHECK.is("20 reason of " + group, reason, () -> x.refusal(false));
        CHECK.is("20 detail of " + group, detail, () -> x.refusal(true));
    }

    private static void refusedWithoutPieces() {
        FreightRater x = Check.rater("z1:0-9;b1:0*1");
        Check.load(x, 5, 0, 0);
        x.ship(0, 0, 0, 0);
        x.ship(0, 0, 0, 0);
        refused(x, 2, 1, 1);
        refused(x, 4, 1, 2);
        refused(x, 5, 1, 2);
        refused(x, 7, 1, 1);
    }

    private static void refusedForDays() {
        FreightRater x = Check.rater("z1:0-9;b1:0*1");
        for (int day : new int[] {3, 4, 3, 5}) {
            x.ship(0, day, 0, 0);
            x.pack(day == 5 ? 3 : day == 4 ? 1 : x.shipment(0, 4) == 0 ? 0 : 2, 1, 1, 1, 1);
        }
        refused(x, 3, 2, 1);
        refused(x, 15, 2, 1);
        refused(x, 13, 2, 3);
        refused(x, 14, 2, 2);
        CHECK.is("19 same day", 0, () -> x.refuses(5));
    }

    private static void refusedForVersion() {
        FreightRater x = new FreightRater();
        x.makeVersion(10, -1);
        Check.amend(x, 0, "z1:0-9;b1:0*1");
        x.ship(0, 9, 0, 0);
        x.pack(0, 1, 1, 1, 1);
        x.ship(0, 9, 0, 0);
        x.pack(1, 1, 1, 1, 1);
        refused(x, 1, 3, 9);
        refused(x, 3, 3, 9);
        x.route(0, 0, 10);
        CHECK.is("19 first day", 0, () -> x.refuses(1));
        x.route(0, 0, 0);
        refused(x, 1, 3, 0);
    }

    private static void refusedForZones() {
        FreightRater x = Check.rater("z1:0-9;z2:10-19;b1:0*1;b2:0*1");
        for (int place : new int[] {5, 25, 15, 20, 6}) {
            int made = x.ship(place, 0, 0, 0);
            x.pack(made, 1, 1, 1, 1);
        }
        refused(x, 2, 4, 1);
        refused(x, 8, 4, 3);
        refused(x, 31, 4, 1);
        refused(x, 13, 4, 3);
        refused(x, 5, 5, 2);
        refused(x, 20, 5, 4);
        refused(x, 21, 5, 2);
        CHECK.is("19 same zone", 0, () -> x.refuses(17));
    }

    private static void refusedForBreaks() {
        FreightRater x = Check.rater("z7:0-9;m7:100;c0");
        Check.load(x, 5, 1, 0);
        Check.load(x, 5, 2, 0);
        refused(x, 1, 6, 7);
        refused(x, 3, 6, 7);
        Check.amend(x, 0, "b7:0*1");
        CHECK.is("19 with a break", 0, () -> x.refuses(1));
    }

    private static void refusedForCapacity() {
        FreightRater x = Check.rater("z1:0-9;b1:0*1;c10");
        Check.load(x, 11, 1, 0);
        Check.load(x, 4, 2, 0);
        Check.load(x, 6, 0, 0);
        CHECK.is("19 one shipment may be above", 0, () -> x.refuses(1));
        CHECK.is("19 just the capacity", 0, () -> x.refuses(6));
        refused(x, 3, 7, 15);
        refused(x, 7, 7, 21);
        x.pack(2, 20, 50, 5, 1);
        refused(x, 6, 7, 11);
        Check.amend(x, 0, "d1000;c11");
        CHECK.is("19 real weight counts", 0, () -> x.refuses(6));
        x.pack(2, 20, 50, 9, 1);
        refused(x, 6, 7, 16);
    }

    private static void refusedForHandlings() {
        FreightRater x = Check.rater("z1:0-9;b1:0*1");
        int[] handlings = {4, 1, 8, 2, 3, 0, 1, 3};
        for (int set : handlings) {
            Check.load(x, 1, set, 0);
        }
        for (int group : new int[] {1, 2, 8, 16, 1 | 2 | 4, 2 | 64, 8 | 4, 16 | 1 | 32}) {
            CHECK.is("19 handlings go together " + group, 0, () -> x.refuses(group));
        }
        refused(x, 2 | 8, 8, 1);
        refused(x, 1 | 2 | 4 | 8, 8, 1);
        refused(x, 1 | 8 | 64, 8, 3);
        refused(x, 8 | 16, 8, 3);
        refused(x, 16 | 64, 8, 4);
        refused(x, 32 | 16 | 128, 8, 4);
        refused(x, 1 | 2 | 16, 8, 1);
        refused(x, 255, 8, 1);
    }

    private static void orderOfReasons() {
        FreightRater x = new FreightRater();
        x.makeVersion(10, -1);
        Check.amend(x, 0, "z1:0-9;z2:10-19;c10");
        x.ship(0, 5, 1, 0);
        x.ship(10, 6, 2, 0);
        x.ship(20, 5, 0, 0);
        refused(x, 7, 1, 0);
        x.pack(0, 1, 1, 1, 9);
        x.pack(1, 1, 1, 1, 9);
        refused(x, 7, 1, 2);
        x.pack(2, 1, 1, 1, 9);
        refused(x, 7, 2, 1);
        x.route(1, 10, 5);
        refused(x, 7, 3, 5);
        x.route(0, 0, 50);
        x.route(1, 10, 50);
        x.route(2, 20, 50);
        refused(x, 7, 4, 2);
        x.route(2, 0, 50);
        refused(x, 7, 5, 1);
        x.route(1, 0, 50);
        refused(x, 7, 6, 1);
        Check.amend(x, 0, "b1:0*1");
        refused(x, 7, 7, 27);
        Check.amend(x, 0, "c27");
        refused(x, 7, 8, 0);
        x.handle(1, 0);
        CHECK.is("19 no reason left", 0, () -> x.refuses(7));
        CHECK.is("17 rated", 27, () -> x.rate(7));
    }

    private static void refusalIsKept() {
        FreightRater x = Check.rater("z1:0-9;b1:0*1");
        CHECK.fails("20 none", Check.MISSING, () -> x.refusal(false));
        CHECK.fails("20 none", Check.MISSING, () -> x.refusal(true));
        x.ship(0, 0, 0, 0);
        x.ship(10, 0, 0, 0);
        x.pack(1, 1, 1, 1, 1);
        CHECK.is("19 keeps nothing", 1, () -> x.refuses(1));
        CHECK.fails("18 keeps nothing", Check.STATE, () -> x.rating(1, 0));
        CHECK.fails("21 keeps nothing", Check.STATE, () -> x.meanPrice(1));
        CHECK.fails("23 keeps nothing", Check.STATE, () -> x.group(1, 0));
        CHECK.fails("24 keeps nothing", Check.STATE, () -> x.searched(1));
        CHECK.fails("25 keeps nothing", Check.STATE, () -> x.merged(1, 0));
        CHECK.fails("20 still none", Check.MISSING, () -> x.refusal(false));
        CHECK.fails("22 keeps", Check.STATE, () -> x.consolidate(2));
        CHECK.is("20 kept by consolidate", 4, () -> x.refusal(false));
        CHECK.is("20 kept by consolidate", 1, () -> x.refusal(true));
        CHECK.fails("26 keeps", Check.STATE, () -> x.post(3));
        CHECK.is("20 kept by post", 1, () -> x.refusal(false));
        CHECK.is("20 kept by post", 0, () -> x.refusal(true));
        CHECK.fails("17 keeps", Check.STATE, () -> x.rate(2));
        CHECK.is("20 kept by rate", 4, () -> x.refusal(false));
        x.saveSnapshot();
        x.pack(0, 1, 1, 1, 1);
        x.undo();
        CHECK.fails("17 keeps", Check.STATE, () -> x.rate(1));
        x.restoreSnapshot();
        CHECK.is("20 is not restored", 1, () -> x.refusal(false));
        x.pack(0, 1, 1, 1, 1);
        CHECK.is("17 rated", 1, () -> x.rate(1));
        CHECK.is("20 stays after a rating", 1, () -> x.refusal(false));
    }

    private static void weights() {
        FreightRater x = Check.rater("z1:0-9;b1:0*1");
        x.ship(0, 0, 0, 0);
        x.pack(0, 10, 10, 50, 1);
        CHECK.is("18 5000 by 5000", 1, () -> x.rating(1, 4));
        x.pack(0, 10, 10, 51, 1);
        CHECK.is("18 5100 is rounded up", 3, () -> x.rating(1, 4));
        x.pack(0, 1, 1, 1, 1);
        CHECK.is("18 each piece is rounded up", 4, () -> x.rating(1, 4));
        x.pack(0, 1, 1, 1, 20);
        CHECK.is("18 real weight", 23, () -> x.rating(1, 4));
        x.ship(0, 0, 0, 0);
        x.pack(1, 100, 100, 50, 7);
        CHECK.is("18 dimensional weight", 100, () -> x.rating(2, 4));
        CHECK.is("18 the sums are compared", 105, () -> x.rating(3, 4));
        Check.amend(x, 0, "d9999");
        CHECK.is("18 another divisor", 51, () -> x.rating(2, 4));
        CHECK.is("18 another divisor", 55, () -> x.rating(3, 4));
    }

    private static void breaks() {
        FreightRater x = Check.rater("z1:0-9;b1:100*10;b1:50*20;b1:0*30;m1:300");
        int[] weights = {9, 10, 33, 34, 49, 50, 51, 99, 100, 101, 500};
        int[] bases = {300, 300, 990, 1000, 1000, 1000, 1000, 1000, 1000, 1010, 5000};
        int[] paid = {9, 10, 33, 50, 50, 50, 100, 100, 100, 101, 500};
        int[] taken = {0, 0, 0, 50, 50, 50, 100, 100, 100, 100, 100};
        for (int i = 0; i < weights.length; i++) {
            FreightRater y = Check.rater("z1:0-9;b1:100*10;b1:50*20;b1:0*30;m1:300");
            Check.load(y, weights[i], 0, 0);
            CHECK.is("17 total of " + weights[i], bases[i], () -> y.rate(1));
            CHECK.is("18 base of " + weights[i], bases[i], () -> y.rating(1, 0));
            CHECK.is("18 weight of " + weights[i], weights[i], () -> y.rating(1, 4));
            CHECK.is("18 paid weight of " + weights[i], paid[i], () -> y.rating(1, 5));
            CHECK.is("18 break of " + weights[i], taken[i], () -> y.rating(1, 6));
        }
        Check.load(x, 60, 0, 0);
        Check.load(x, 60, 0, 0);
        CHECK.is("18 base of two", 1200, () -> x.rating(3, 0));
        FreightRater equal = Check.rater("z1:0-9;b1:10*8;b1:20*4;b1:5*8");
        Check.load(equal, 10, 0, 0);
        CHECK.is("18 least of equal breaks", 5, () -> equal.rating(1, 6));
        CHECK.is("18 its paid weight", 10, () -> equal.rating(1, 5));
    }

    /** Group 3: weight 40, 3 pieces, longest side 60, zone 3, handlings 2 and 7. */
    private static FreightRater forConditions() {
        FreightRater x = Check.rater("z3:0-9;b3:0*1");
        x.ship(0, 0, 4, 0);
        x.pack(0, 1, 60, 2, 10);
        x.ship(0, 0, 128, 0);
        x.pack(1, 1, 2, 30, 10);
        x.pack(1, 5, 2, 1, 20);
        x.ship(0, 0, 0, 0);
        x.pack(2, 200, 200, 200, 999);
        CHECK.is("18 a greater one is rated before", 1600, () -> x.rating(4, 4));
        return x;
    }

    private static void conditions() {
        FreightRater x = forConditions();
        String[] hold = {"h2", "h7", "-h0", "-h1", "-h6", "w<41", "w>39", "w=40", "-w<40", "-w>40", "-w=41", "n<4", "n>2",
            "n=3", "-n<3", "-n>3", "-n=4", "l<61", "l>59", "l=60", "-l<60", "-l>60", "z<4", "z>2", "z=3", "-z<3", "-z>3",
            "z<9999", "w=0040"};
        String[] fail = {"-h2", "-h7", "h0", "h1", "h6", "w<40", "w>40", "w=41", "w=39", "-w<41", "-w>39", "-w=40", "n<3",
            "n>3", "n=2", "-n=3", "l<60", "l>60", "l=59", "-l=60", "z<3", "z>3", "z=4", "-z=3", "n=2", "l=30"};
        for (String test : hold) {
            Check.amend(x, 0, "a4:1?" + test);
            CHECK.is("18 holds: " + test, 16, () -> x.rating(3, 7));
        }
        FreightRater y = forConditions();
        for (String test : fail) {
            Check.amend(y, 0, "a4:1?" + test);
            CHECK.is("18 does not hold: " + test, 0, () -> y.rating(3, 7));
        }
    }

    private static void rowsAndTests() {
        FreightRater x = Check.rater("z1:0-9;b1:0*1");
        Check.load(x, 5, 4, 0);
        // h2 holds, h3 does not.
        String[] conditions = {"h2&h2", "h2&h3", "h3&h2", "h3&h3", "h2|h3", "h3|h2", "h3|h3", "h2&h3|h2", "h2|h2&h3",
            "h3|h2&h3", "h2&h3|h3&h2", "h3&h3|h2&h2", "h2&h2|h3&h3", "h3|h3|h2", "h3|h2|h3", "h2|h3|h3", "h3&h2|h3",
            "h2&h2&h2", "h2&h2&h3", "-h3&h2|h3", "h3&h3&h2|h3|h3&h2", "h2&h3&h2"};
        boolean[] holds = {true, false, false, false, true, true, false, true, true,
            false, false, true, true, true, true, true, false,
            true, false, true, false, false};
        CHECK.is("as many as conditions", conditions.length, () -> holds.length);
        for (int i = 0; i < conditions.length; i++) {
            Check.amend(x, 0, "a0:1?" + conditions[i]);
            CHECK.is("18 " + conditions[i], holds[i] ? 1 : 0, () -> x.rating(1, 7));
        }
    }

    private static void accessorials() {
        FreightRater x = Check.rater("z1:0-9;b1:0*10;b1:100*7;s25");
        Check.load(x, 40, 1, 0);
        Check.load(x, 45, 4, 0);
        // 85 kilograms are paid as 100, so the base is 700.
        CHECK.is("18 base", 700, () -> x.rating(3, 0));
        Check.amend(x, 0, "a0:30;a1:2*;a2:10%");
        CHECK.is("18 amount, per kilogram, percentage", 30 + 2 * 85 + 70, () -> x.rating(3, 1));
        CHECK.is("18 set", 7, () -> x.rating(3, 7));
        Check.amend(x, 0, "a1:2*!2");
        CHECK.is("18 1 excludes 2", 3, () -> x.rating(3, 7));
        CHECK.is("18 amounts", 200, () -> x.rating(3, 1));
        Check.amend(x, 0, "a0:30!1");
        CHECK.is("18 0 excludes 1, which then excludes nothing", 5, () -> x.rating(3, 7));
        Check.amend(x, 0, "a0:30?h1!1");
        CHECK.is("18 0 does not count, so it excludes nothing", 2, () -> x.rating(3, 7));
        Check.amend(x, 0, "a0:30;a1:2*!1;a2:10%!0");
        CHECK.is("18 no effect on itself and lesser ones", 7, () -> x.rating(3, 7));
        Check.amend(x, 0, "a9:5;a5:1!9");
        CHECK.is("18 5 excludes 9", 39, () -> x.rating(3, 7));
        Check.amend(x, 0, "r5");
        CHECK.is("18 9 counts again", 519, () -> x.rating(3, 7));
        Check.amend(x, 0, "a3:1!5;a4:1!9;a5:1");
        CHECK.is("18 two exclude two", 31, () -> x.rating(3, 7));
        Check.amend(x, 0, "a3:1!4;r5;a9:5");
        CHECK.is("18 4 is excluded, so 9 is not", 15 + 512, () -> x.rating(3, 7));
        Check.amend(x, 0, "r3;r4");
        CHECK.is("18 handlings of either", 519, () -> {
            Check.amend(x, 0, "a0:30?h0&h2");
            return x.rating(3, 7);
        });
        CHECK.is("18 handlings of one", 518, () -> x.rating(1, 7));
    }

    private static void roundedPercentages() {
        FreightRater x = Check.rater("z1:0-9;b1:0*1");
        Check.load(x, 1, 0, 0);
        int[] minimums = {149, 150, 151, 249, 250, 50, 49, 1};
        int[] due = {1, 2, 2, 2, 3, 1, 0, 0};
        for (int i = 0; i < minimums.length; i++) {
            Check.amend(x, 0, "f1;m1:" + minimums[i]);
            CHECK.is("18 fuel of " + minimums[i], due[i], () -> x.rating(1, 3));
            Check.amend(x, 0, "f0;a0:1%");
            CHECK.is("18 percentage of " + minimums[i], due[i], () -> x.rating(1, 1));
            Check.amend(x, 0, "r0");
        }
        Check.amend(x, 0, "m1:101;a0:50%;f99");
        CHECK.is("18 50 per cent of 101", 51, () -> x.rating(1, 1));
        CHECK.is("18 99 per cent of 152", 150, () -> x.rating(1, 3));
        CHECK.is("17 total", 302, () -> x.rate(1));
    }

    private static void parts() {
        FreightRater x = Check.rater("z1:0-9;z4:5-5;b4:0*10;b4:30*9;m4:200;f10;s33;a2:5*;a6:10%?n>1;d2000");
        for (int i = 0; i < 3; i++) {
            x.ship(5, 0, 0, 0);
            x.pack(i, 20, 20, 20, 6);
        }
        int[] three = {200, 110, 66, 38, 18, 18, 0, 68, 4, 0};
        int[] one = {200, 30, 0, 23, 6, 6, 0, 4, 4, 0};
        for (int what = 0; what < 10; what++) {
            int asked = what;
            CHECK.is("18 three, what " + what, three[what], () -> x.rating(7, asked));
            CHECK.is("18 one, what " + what, one[what], () -> x.rating(2, asked));
        }
        CHECK.is("17 three", 200 + 110 + 66 + 38, () -> x.rate(7));
        CHECK.is("17 one", 253, () -> x.rate(1));
    }

    private static void versionOfDay() {
        FreightRater x = Check.rater("z1:0-9;b1:0*1");
        x.makeVersion(50, 0);
        Check.amend(x, 1, "b1:0*2;z1:10-10");
        Check.load(x, 10, 0, 0);
        CHECK.is("18 version", 0, () -> x.rating(1, 9));
        CHECK.is("17 total", 10, () -> x.rate(1));
        x.route(0, 10, 50);
        CHECK.is("18 version", 1, () -> x.rating(1, 9));
        CHECK.is("17 total", 20, () -> x.rate(1));
        x.route(0, 10, 49);
        refused(x, 1, 4, 0);
    }

    private static void greatGroup() {
        FreightRater x = Check.rater("z1:0-9;b1:0*99;d1000;f99;c9999;a0:99*;a1:99*;a2:99*;a3:99*;a4:99*",
                "a5:99*;a6:99*;a7:99*;a8:99*;a9:50%");
        for (int i = 0; i < 10; i++) {
            x.ship(0, 0, 0, i % 4);
        }
        for (int i = 0; i < 5; i++) {
            x.pack(0, 200, 200, 200, 999);
        }
        long base = 40000L * 99;
        long sum = base * 10 + base / 2;
        CHECK.is("17 great total", sum + (sum * 99 + 50) / 100, () -> x.rate(1));
        x.pack(1, 1, 1, 1, 1);
        refused(x, 3, 7, 40001);
        for (int i = 2; i < 10; i++) {
            x.pack(i, 1, 1, 1, i == 9 ? 999 : 1);
        }
        CHECK.is("17 nine shipments", 1023 - 1, () -> x.refuses(1022) == 0 ? 1022 : -1);
        CHECK.is("18 weight of nine", 999 + 8, () -> x.rating(1022, 4));
        CHECK.is("18 stops of nine", 8 * 9999, () -> {
            Check.amend(x, 0, "s9999");
            return x.rating(1022, 2);
        });
    }

    private static void meanPrice() {
        FreightRater x = Check.rater("z1:0-9;b1:0*10;m1:100");
        Check.load(x, 3, 0, 0);
        Check.load(x, 21, 0, 0);
        CHECK.is("21 100 by 3", 100.0 / 3.0, () -> x.meanPrice(1));
        CHECK.is("21 210 by 21", 10.0, () -> x.meanPrice(2));
        Check.amend(x, 0, "a0:1;b1:30*5");
        CHECK.is("21 151 by 24, not by the paid weight", 151.0 / 24.0, () -> x.meanPrice(3));
    }
}
