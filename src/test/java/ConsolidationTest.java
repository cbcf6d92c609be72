/** Promises 22 to 25: the best consolidation, the search for its total, and the plain merging. */
public final class ConsolidationTest {
    private static final Check CHECK = new Check("ConsolidationTest");

    public static void main(String[] args) {
        exceptions();
        refusedShipments();
        oneShipment();
        eachCallAlone();
        cheaperTogether();
        capacityDivides();
        fewestGroups();
        firstOfEqual();
        gapsInSet();
        eightShipments();
        refusedGroupsAreLeftOut();
        mergingIsPlain();
        mergingTies();
        mergingNeedsGain();
        mergingNeedsLessThanBest();
        postedAreConsolidated();
        CHECK.end();
    }

    private static void exceptions() {
        FreightRater x = Check.rater("z1:0-9;b1:0*1");
        noSet(x, 0);
        noSet(x, 1);
        for (int i = 0; i < 10; i++) {
            Check.load(x, 1, 0, 0);
        }
        noSet(x, 0);
        noSet(x, -1);
        noSet(x, 1024);
        noSet(x, 1025);
        noSet(x, 2047);
        noSet(x, Integer.MIN_VALUE + 1);
        for (int set : new int[] {511, 1023, 1022}) {
            CHECK.fails("22 nine or ten", Check.ARGUMENT, () -> x.consolidate(set));
            CHECK.fails("23 nine or ten", Check.ARGUMENT, () -> x.group(set, 100));
            CHECK.fails("24 nine or ten", Check.ARGUMENT, () -> x.searched(set));
            CHECK.fails("25 nine or ten", Check.ARGUMENT, () -> x.merged(set, 0));
        }
        CHECK.is("22 eight", 8, () -> x.consolidate(255));
        CHECK.is("22 eight others", 8, () -> x.consolidate(1020));
        CHECK.fails("24 eight", Check.ARGUMENT, () -> x.searched(255));
        CHECK.fails("24 seven", Check.ARGUMENT, () -> x.searched(127));
        CHECK.is("24 six", 6, () -> x.searched(63));
        CHECK.is("24 six others", 6, () -> x.searched(1023 - 15));
        CHECK.is("25 eight", 8, () -> x.merged(255, 0));
        CHECK.fails("25 what 3", Check.ARGUMENT, () -> x.merged(255, 3));
        CHECK.fails("25 what -1", Check.ARGUMENT, () -> x.merged(1, -1));
        CHECK.fails("23 group 1", Check.MISSING, () -> x.group(255, 1));
        CHECK.fails("23 group -2", Check.MISSING, () -> x.group(255, -2));
    }

    private static void noSet(FreightRater x, int set) {
        CHECK.fails("22 set " + set, Check.INDEX, () -> x.consolidate(set));
        CHECK.fails("23 set " + set, Check.INDEX, () -> x.group(set, 100));
        CHECK.fails("24 set " + set, Check.INDEX, () -> x.searched(set));
        CHECK.fails("25 set " + set, Check.INDEX, () -> x.merged(set, 100));
    }

    private static void refusedShipments() {
        FreightRater x = Check.rater("z1:0-9;b1:0*1");
        Check.load(x, 1, 0, 0);
        x.ship(10, 0, 0, 0);
        x.pack(1, 1, 1, 1, 1);
        x.ship(0, 0, 0, 0);
        CHECK.fails("22 refused", Check.STATE, () -> x.consolidate(7));
        CHECK.is("22 the lowest refused one", 4, () -> x.refusal(false));
        CHECK.is("22 its detail", 1, () -> x.refusal(true));
        CHECK.fails("22 refused", Check.STATE, () -> x.consolidate(5));
        CHECK.is("22 the other one", 1, () -> x.refusal(false));
        CHECK.is("22 its detail", 2, () -> x.refusal(true));
        CHECK.fails("23 refused", Check.STATE, () -> x.group(3, 0));
        CHECK.fails("23 refused before no such group", Check.STATE, () -> x.group(3, 100));
        CHECK.fails("24 refused", Check.STATE, () -> x.searched(3));
        CHECK.fails("25 refused", Check.STATE, () -> x.merged(3, 0));
        CHECK.fails("25 what before refused", Check.ARGUMENT, () -> x.merged(3, 3));
        CHECK.is("20 only consolidate kept", 1, () -> x.refusal(false));
        for (int i = 3; i < 10; i++) {
            Check.load(x, 1, 0, 0);
        }
        CHECK.fails("22 nine before refused", Check.ARGUMENT, () -> x.consolidate(1022));
        CHECK.fails("24 seven before refused", Check.ARGUMENT, () -> x.searched(127));
        CHECK.is("22 without the refused ones", 2, () -> x.consolidate(9));
    }

    private static void oneShipment() {
        FreightRater x = Check.rater("z1:0-9;b1:0*3");
        Check.load(x, 1, 0, 0);
        Check.load(x, 7, 3, 0);
        CHECK.is("22 one", 21, () -> x.consolidate(2));
        CHECK.is("23 number", 1, () -> x.group(2, -1));
        CHECK.is("23 group", 2, () -> x.group(2, 0));
        CHECK.is("24 one", 21, () -> x.searched(2));
        CHECK.is("25 total", 21, () -> x.merged(2, 0));
        CHECK.is("25 number", 1, () -> x.merged(2, 1));
        CHECK.is("25 group", 2, () -> x.merged(2, 2));
    }

    /** No call needs another one for the same set before it. */
    private static void eachCallAlone() {
        FreightRater x = Check.rater("z1:0-9;b1:0*1;m1:10;c7");
        for (int i = 0; i < 4; i++) {
            Check.load(x, i + 1, 0, i);
        }
        CHECK.is("22 alone", 20, () -> x.consolidate(7 + 8));
        CHECK.is("23 alone", 6, () -> x.group(6, 0));
        CHECK.is("24 alone", 20, () -> x.searched(15));
        CHECK.is("25 alone", 20, () -> x.merged(14, 0));
        CHECK.is("23 alone", 1, () -> x.group(8, -1));
        CHECK.is("26 alone", 20, () -> x.post(13));
        CHECK.is("16 after post", 15, () -> x.shipment(0, 8) + x.shipment(2, 8));
        Check.amend(x, 0, "m1:25");
        CHECK.is("24 after a change", 25, () -> x.searched(3));
        Check.amend(x, 0, "m1:30");
        CHECK.is("23 after a change", 3, () -> x.group(3, 0));
        Check.amend(x, 0, "c1");
        CHECK.is("23 after a change", 1, () -> x.group(3, 0));
        CHECK.is("22 after a change", 60, () -> x.consolidate(3));
    }

    /** The best consolidation is this: the total, then the groups. */
    private static void best(FreightRater x, int set, int total, int... groups) {
        CHECK.is("22 total of " + set, total, () -> x.consolidate(set));
        if (Integer.bitCount(set) <= 6) {
            CHECK.is("24 total of " + set, total, () -> x.searched(set));
        }
        CHECK.is("23 number of " + set, groups.length, () -> x.group(set, -1));
        for (int i = 0; i < groups.length; i++) {
            int asked = i;
            CHECK.is("23 group " + i + " of " + set, groups[i], () -> x.group(set, asked));
        }
        CHECK.fails("23 group behind the last one of " + set, Check.MISSING, () -> x.group(set, groups.length));
    }

    /** The plain merging is this. */
    private static void merging(FreightRater x, int set, int total, int number, int lowest) {
        CHECK.is("25 total of " + set, total, () -> x.merged(set, 0));
        CHECK.is("25 number of " + set, number, () -> x.merged(set, 1));
        CHECK.is("25 lowest group of " + set, lowest, () -> x.merged(set, 2));
    }

    private static void cheaperTogether() {
        FreightRater x = Check.rater("z1:0-9;b1:0*10;m1:100;s30");
        Check.load(x, 2, 0, 0);
        Check.load(x, 20, 0, 0);
        Check.load(x, 3, 0, 0);
        // Alone 100, 200, 100; each stop costs 30, and a pair of light ones saves 100 - 30.
        best(x, 3, 250, 3);
        best(x, 5, 130, 5);
        best(x, 7, 310, 7);
        merging(x, 7, 310, 1, 7);
        Check.amend(x, 0, "s90");
        best(x, 7, 390, 5, 2);
        merging(x, 7, 390, 2, 5);
        Check.amend(x, 0, "s101");
        best(x, 7, 400, 1, 2, 4);
        merging(x, 7, 400, 3, 1);
    }

    private static void capacityDivides() {
        FreightRater x = Check.rater("z1:0-9;b1:0*1;m1:50;c20");
        int[] weights = {12, 11, 8, 9};
        for (int weight : weights) {
            Check.load(x, weight, 0, 0);
        }
        // Alone 50 each; 0 and 2 or 1 and 3 or 1 and 2 or 2 and 3 fit together.
        best(x, 15, 100, 5, 10);
        best(x, 3, 100, 1, 2);
        best(x, 7, 100, 1, 6);
        best(x, 13, 100, 1, 12);
        best(x, 11, 100, 1, 10);
    }

    private static void fewestGroups() {
        FreightRater x = Check.rater("z1:0-9;b1:0*1");
        for (int i = 1; i <= 4; i++) {
            Check.load(x, i, 0, 0);
        }
        // All consolidations cost the same.
        best(x, 15, 10, 15);
        merging(x, 15, 10, 4, 1);
        Check.amend(x, 0, "c6");
        best(x, 15, 10, 5, 10);
        Check.amend(x, 0, "c5");
        best(x, 15, 10, 9, 6);
        Check.amend(x, 0, "c4");
        best(x, 15, 10, 3, 4, 8);
        best(x, 7, 6, 3, 4);
    }

    private static void firstOfEqual() {
        FreightRater x = Check.rater("z1:0-9;b1:0*1;c2");
        for (int i = 0; i < 6; i++) {
            Check.load(x, 1, 0, 0);
        }
        // Pairs, in three groups; the first one is the least with shipment 0 in it.
        best(x, 63, 6, 3, 12, 48);
        best(x, 31, 5, 1, 6, 24);
        Check.amend(x, 0, "c3");
        best(x, 63, 6, 7, 56);
        best(x, 31, 5, 3, 28);
        best(x, 15, 4, 1, 14);
        Check.amend(x, 0, "m1:2;c4");
        best(x, 63, 6, 3, 60);
        merging(x, 63, 6, 3, 3);
    }

    private static void gapsInSet() {
        FreightRater x = Check.rater("z1:0-9;b1:0*1;m1:10;c15");
        for (int i = 0; i < 10; i++) {
            Check.load(x, i + 1, 0, 0);
        }
        int set = 1 << 9 | 1 << 4 | 1 << 1;
        // Their weights are 2, 5 and 10; the first two save most, and all three are too heavy.
        best(x, set, 20, 1 << 1 | 1 << 4, 1 << 9);
        merging(x, set, 20, 2, 1 << 1 | 1 << 4);
    }

    private static void eightShipments() {
        FreightRater x = Check.rater("z1:0-9;b1:0*1;m1:100;c100");
        int[] weights = {50, 40, 30, 20, 10, 60, 70, 20};
        for (int weight : weights) {
            Check.load(x, weight, 0, 0);
        }
        // 300 kilograms in three groups of 100 each.
        best(x, 255, 300, 1 | 4 | 8, 2 | 32, 16 | 64 | 128);
        x.undo();
        x.undo();
        best(x, 127, 300, 1 | 2, 4 | 32, 8 | 16 | 64);
    }

    private static void refusedGroupsAreLeftOut() {
        FreightRater x = Check.rater("z1:0-9;z2:10-19;b1:0*1;b2:0*1;m1:100;m2:100");
        Check.load(x, 5, 1, 0);
        Check.load(x, 5, 2, 0);
        Check.load(x, 5, 0, 0);
        x.ship(10, 0, 0, 0);
        x.pack(3, 1, 1, 1, 5);
        x.ship(0, 1, 0, 0);
        x.pack(4, 1, 1, 1, 5);
        best(x, 3, 200, 1, 2);
        best(x, 7, 200, 1, 6);
        best(x, 12, 200, 4, 8);
        best(x, 20, 200, 4, 16);
        best(x, 31, 400, 1, 6, 8, 16);
        merging(x, 31, 400, 4, 5);
    }

    private static void mergingIsPlain() {
        // The greatest saving first leads away from the best consolidation here.
        FreightRater x = Check.rater("z1:0-9;b1:0*1;m1:50;c60");
        int[] weights = {30, 30, 29, 31};
        for (int weight : weights) {
            Check.load(x, weight, 0, 0);
        }
        best(x, 15, 120, 3, 12);
        // 0 and 2 save 41, as do 1 and 2; then 1 and 3 are too heavy.
        merging(x, 15, 59 + 50 + 50, 3, 5);
    }

    private static void mergingTies() {
        FreightRater x = Check.rater("z1:0-9;b1:0*1;m1:50;c60");
        for (int i = 0; i < 5; i++) {
            Check.load(x, 20, 0, 0);
        }
        // All pairs save 50; then 16 saves 40 with 3 and with 12.
        merging(x, 15, 100, 2, 3);
        merging(x, 31, 110, 2, 19);
        merging(x, 3, 50, 1, 3);
        best(x, 31, 110, 3, 28);
    }

    private static void mergingNeedsGain() {
        FreightRater x = Check.rater("z1:0-9;b1:0*10;s5");
        Check.load(x, 1, 0, 0);
        Check.load(x, 1, 0, 0);
        merging(x, 3, 20, 2, 1);
        Check.amend(x, 0, "s0");
        merging(x, 3, 20, 2, 1);
        best(x, 3, 20, 3);
        Check.amend(x, 0, "m1:20;s19");
        merging(x, 3, 39, 1, 3);
        Check.amend(x, 0, "s20");
        merging(x, 3, 40, 2, 1);
        best(x, 3, 40, 3);
    }

    private static void mergingNeedsLessThanBest() {
        FreightRater x = Check.rater("z1:0-9;b1:0*10;b1:100*4");
        Check.load(x, 30, 0, 0);
        Check.load(x, 10, 0, 0);
        Check.load(x, 35, 0, 0);
        // Alone 300, 100, 350; 0 and 2 together 400, which saves 250; all three 400.
        merging(x, 7, 400, 1, 7);
        best(x, 7, 400, 7);
    }

    private static void postedAreConsolidated() {
        FreightRater x = Check.rater("z1:0-9;b1:0*10;m1:100");
        Check.load(x, 1, 0, 0);
        Check.load(x, 1, 0, 0);
        x.post(1);
        best(x, 3, 100, 3);
        merging(x, 3, 100, 1, 3);
        CHECK.is("17 posted", 100, () -> x.rate(1));
    }
}
