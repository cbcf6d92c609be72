/** A test for each boundary case of consolidations and of the plain merging: promises 22 to 25. */
public final class ConsolidationBoundsTest {
    private static final Check CHECK = new Check("ConsolidationBoundsTest");

    public static void main(String[] args) {
        noSets();
        setSizes();
        refusedShipments();
        orderOfExceptions();
        groupNumbers();
        whatNumbers();
        fewestAndMostGroups();
        leastTotal();
        fewestGroups();
        firstOfSeveral();
        refusedGroups();
        mergingGain();
        mergingTies();
        mergingTiesOfMergedGroups();
        mergingSteps();
        mergedGroup();
        nothingIsLeft();
        greatTotals();
        CHECK.end();
    }

    /** Shipments of these weights in zone 1; one kilogram costs a cent. */
    private static FreightRater weighing(String text, int... weights) {
        FreightRater x = Check.rater("z1:0-9;b1:0*1", text);
        for (int weight : weights) {
            Check.load(x, weight, 0, 0);
        }
        return x;
    }

    private static FreightRater plain(int shipments) {
        FreightRater x = Check.rater("z1:0-9;b1:0*1");
        for (int i = 0; i < shipments; i++) {
            Check.load(x, i + 1, 0, 0);
        }
        return x;
    }

    private static void noSet(FreightRater x, int set) {
        CHECK.fails("consolidate(" + set + ")", Check.INDEX, () -> x.consolidate(set));
        CHECK.fails("group(" + set + ", 0)", Check.INDEX, () -> x.group(set, 0));
        CHECK.fails("group(" + set + ", -1)", Check.INDEX, () -> x.group(set, -1));
        CHECK.fails("searched(" + set + ")", Check.INDEX, () -> x.searched(set));
        CHECK.fails("merged(" + set + ", 0)", Check.INDEX, () -> x.merged(set, 0));
    }

    private static void noSets() {
        CHECK.test("22 to 25 the set is empty", () -> {
            noSet(plain(0), 0);
            noSet(plain(10), 0);
        });
        CHECK.test("22 to 25 without shipments there is no set", () -> noSet(plain(0), 1));
        CHECK.test("22 to 25 the set has a shipment that does not exist", () -> {
            FreightRater x = plain(2);
            for (int set : new int[] {4, 5, 7, 512, 1 << 30, 1 << 30 | 1}) {
                noSet(x, set);
            }
            FreightRater ten = plain(10);
            for (int set : new int[] {1024, 1025, 3072, Integer.MAX_VALUE}) {
                noSet(ten, set);
            }
        });
        CHECK.test("22 to 25 a negative set has shipments that do not exist", () -> {
            FreightRater x = plain(10);
            for (int set : new int[] {-1, -1024, Integer.MIN_VALUE, Integer.MIN_VALUE + 1}) {
                noSet(x, set);
            }
        });
    }

    private static void setSizes() {
        FreightRater x = plain(10);
        CHECK.test("22 a set of one, the first and the last", () -> {
            CHECK.is("consolidate(1)", 1, () -> x.consolidate(1));
            CHECK.is("consolidate(512)", 10, () -> x.consolidate(512));
        });
        CHECK.test("22 a set of 8 is allowed, of the first ones and of the last ones", () -> {
            CHECK.is("consolidate(255)", 36, () -> x.consolidate(255));
            CHECK.is("consolidate(1020)", 52, () -> x.consolidate(1020));
        });
        CHECK.test("22 a set of 9 or 10 is too large", () -> {
            for (int set : new int[] {511, 1022, 1023}) {
                CHECK.fails("consolidate(" + set + ")", Check.ARGUMENT, () -> x.consolidate(set));
            }
        });
        CHECK.test("23 a set of 8 is allowed, 9 or 10 are too many", () -> {
            CHECK.is("group(255, 0)", 255, () -> x.group(255, 0));
            CHECK.is("group(1020, 0)", 1020, () -> x.group(1020, 0));
            CHECK.fails("group(511, 0)", Check.ARGUMENT, () -> x.group(511, 0));
            CHECK.fails("group(1023, -1)", Check.ARGUMENT, () -> x.group(1023, -1));
        });
        CHECK.test("24 a set of 6 is allowed, of the first ones and of the last ones", () -> {
            CHECK.is("searched(63)", 21, () -> x.searched(63));
            CHECK.is("searched(1008)", 45, () -> x.searched(1008));
            CHECK.is("searched(512)", 10, () -> x.searched(512));
        });
        CHECK.test("24 a set of 7 or more is too large", () -> {
            for (int set : new int[] {127, 1016, 255, 511, 1023}) {
                CHECK.fails("searched(" + set + ")", Check.ARGUMENT, () -> x.searched(set));
            }
        });
        CHECK.test("25 a set of 8 is allowed, 9 or 10 are too many", () -> {
            CHECK.is("merged(255, 0)", 36, () -> x.merged(255, 0));
            CHECK.is("merged(1020, 1)", 8, () -> x.merged(1020, 1));
            CHECK.fails("merged(511, 0)", Check.ARGUMENT, () -> x.merged(511, 0));
            CHECK.fails("merged(1023, 2)", Check.ARGUMENT, () -> x.merged(1023, 2));
        });
    }

    /** Shipments 2 and 4 of ten are refused: one has no zone, one has no pieces. */
    private static FreightRater twoRefused() {
        FreightRater x = plain(2);
        x.pack(x.ship(10, 0, 0, 0), 1, 1, 1, 1);
        Check.load(x, 1, 0, 0);
        x.ship(0, 0, 0, 0);
        for (int i = 5; i < 10; i++) {
            Check.load(x, 1, 0, 0);
        }
        return x;
    }

    private static void refusedShipments() {
        CHECK.test("22 one of its shipments is refused, the lowest one, one between, the highest one", () -> {
            FreightRater x = twoRefused();
            CHECK.fails("consolidate(12)", Check.STATE, () -> x.consolidate(12));
            CHECK.fails("consolidate(14)", Check.STATE, () -> x.consolidate(14));
            CHECK.fails("consolidate(7)", Check.STATE, () -> x.consolidate(7));
            CHECK.fails("consolidate(4)", Check.STATE, () -> x.consolidate(4));
            CHECK.is("consolidate(11)", 4, () -> x.consolidate(11));
        });
        CHECK.test("22 the reason of the lowest refused shipment is kept", () -> {
            FreightRater x = twoRefused();
            CHECK.fails("consolidate(31)", Check.STATE, () -> x.consolidate(31));
            CHECK.is("the reason", 4, () -> x.refusal(false));
            CHECK.is("the detail", 2, () -> x.refusal(true));
            CHECK.fails("consolidate(27)", Check.STATE, () -> x.consolidate(27));
            CHECK.is("the reason", 1, () -> x.refusal(false));
            CHECK.is("the detail", 4, () -> x.refusal(true));
        });
        CHECK.test("23 to 25 one of its shipments is refused, and nothing is kept", () -> {
            FreightRater x = twoRefused();
            CHECK.fails("group(7, 0)", Check.STATE, () -> x.group(7, 0));
            CHECK.fails("group(7, -1)", Check.STATE, () -> x.group(7, -1));
            CHECK.fails("searched(17)", Check.STATE, () -> x.searched(17));
            CHECK.fails("merged(20, 0)", Check.STATE, () -> x.merged(20, 0));
            CHECK.fails("refusal(false)", Check.MISSING, () -> x.refusal(false));
        });
        CHECK.test("22 a group of several that is refused does not refuse the set", () -> {
            FreightRater x = weighing("c0", 5, 6);
            CHECK.is("consolidate(3)", 11, () -> x.consolidate(3));
            CHECK.is("group(3, -1)", 2, () -> x.group(3, -1));
            CHECK.is("searched(3)", 11, () -> x.searched(3));
            CHECK.is("merged(3, 1)", 2, () -> x.merged(3, 1));
        });
    }

    private static void orderOfExceptions() {
        CHECK.test("22 to 25 exceptions: a shipment that does not exist comes first, then more than 8", () -> {
            FreightRater x = plain(9);
            noSet(x, 1023);
            noSet(x, 1022);
            noSet(x, Integer.MAX_VALUE);
        });
        CHECK.test("22 to 25 exceptions: a shipment that does not exist comes first, then one that is refused", () -> {
            FreightRater x = Check.rater();
            x.ship(0, 0, 0, 0);
            noSet(x, 3);
            CHECK.fails("nothing is kept", Check.MISSING, () -> x.refusal(false));
        });
        CHECK.test("22 to 25 exceptions: more than 8 come first, then one that is refused", () -> {
            FreightRater x = twoRefused();
            CHECK.fails("consolidate(511)", Check.ARGUMENT, () -> x.consolidate(511));
            CHECK.fails("group(511, 0)", Check.ARGUMENT, () -> x.group(511, 0));
            CHECK.fails("searched(511)", Check.ARGUMENT, () -> x.searched(511));
            CHECK.fails("merged(511, 0)", Check.ARGUMENT, () -> x.merged(511, 0));
            CHECK.fails("nothing is kept", Check.MISSING, () -> x.refusal(false));
        });
        CHECK.test("23 exceptions: all others come first, then that there is no such group", () -> {
            FreightRater x = twoRefused();
            CHECK.fails("set", Check.INDEX, () -> x.group(0, 9));
            CHECK.fails("size", Check.ARGUMENT, () -> x.group(511, 9));
            CHECK.fails("refused", Check.STATE, () -> x.group(4, 9));
        });
        CHECK.test("24 exceptions: a shipment that does not exist comes first, then more than 6", () ->
                CHECK.fails("searched(127)", Check.INDEX, () -> plain(6).searched(127)));
        CHECK.test("24 exceptions: more than 6 come first, then one that is refused", () ->
                CHECK.fails("searched(127)", Check.ARGUMENT, () -> twoRefused().searched(127)));
        CHECK.test("25 exceptions: the set comes first, then what", () -> {
            CHECK.fails("merged(0, 3)", Check.INDEX, () -> plain(1).merged(0, 3));
            CHECK.fails("merged(2, -1)", Check.INDEX, () -> plain(1).merged(2, -1));
        });
        CHECK.test("25 exceptions: what comes first, then a shipment that is refused", () -> {
            CHECK.fails("merged(4, 3)", Check.ARGUMENT, () -> twoRefused().merged(4, 3));
            CHECK.fails("merged(4, -1)", Check.ARGUMENT, () -> twoRefused().merged(4, -1));
        });
    }

    private static void groupNumbers() {
        CHECK.test("23 i: -1 is the number of groups, one and eight", () -> {
            CHECK.is("one", 1, () -> plain(8).group(255, -1));
            CHECK.is("eight", 8, () -> weighing("c0", 1, 2, 3, 4, 5, 6, 7, 8).group(255, -1));
        });
        CHECK.test("23 i: the first group and the last one are allowed", () -> {
            FreightRater x = weighing("c0", 1, 2, 3, 4, 5, 6, 7, 8);
            CHECK.is("the first", 1, () -> x.group(255, 0));
            CHECK.is("the last", 128, () -> x.group(255, 7));
        });
        CHECK.test("23 i: there is no such group", () -> {
            FreightRater x = weighing("c0", 1, 2, 3, 4, 5, 6, 7, 8);
            for (int i : new int[] {8, 9, -2, Integer.MAX_VALUE, Integer.MIN_VALUE}) {
                CHECK.fails("group(255, " + i + ")", Check.MISSING, () -> x.group(255, i));
            }
            CHECK.fails("group(3, 2)", Check.MISSING, () -> x.group(3, 2));
            CHECK.fails("group(1, 1)", Check.MISSING, () -> x.group(1, 1));
        });
    }

    private static void whatNumbers() {
        FreightRater x = plain(3);
        CHECK.test("25 what: 0 and 2 are allowed", () -> {
            CHECK.is("merged(7, 0)", 6, () -> x.merged(7, 0));
            CHECK.is("merged(7, 1)", 3, () -> x.merged(7, 1));
            CHECK.is("merged(7, 2)", 1, () -> x.merged(7, 2));
        });
        CHECK.test("25 what: out of range", () -> {
            for (int what : Check.outside(0, 2)) {
                CHECK.fails("merged(7, " + what + ")", Check.ARGUMENT, () -> x.merged(7, what));
            }
        });
    }

    /** The best consolidation has this total and these groups, and the search finds the same total. */
    private static void best(FreightRater x, int set, int total, int... groups) {
        CHECK.is("consolidate(" + set + ")", total, () -> x.consolidate(set));
        if (Integer.bitCount(set) <= 6) {
            CHECK.is("searched(" + set + ")", total, () -> x.searched(set));
        }
        CHECK.is("group(" + set + ", -1)", groups.length, () -> x.group(set, -1));
        for (int i = 0; i < groups.length; i++) {
            int asked = i;
            CHECK.is("group(" + set + ", " + i + ")", groups[i], () -> x.group(set, asked));
        }
    }

    private static void merging(FreightRater x, int set, int total, int number, int lowest) {
        CHECK.is("merged(" + set + ", 0)", total, () -> x.merged(set, 0));
        CHECK.is("merged(" + set + ", 1)", number, () -> x.merged(set, 1));
        CHECK.is("merged(" + set + ", 2)", lowest, () -> x.merged(set, 2));
    }

    private static void fewestAndMostGroups() {
        CHECK.test("22 all eight in one group", () -> {
            FreightRater x = weighing("m1:100", 1, 2, 3, 4, 5, 6, 7, 8);
            best(x, 255, 100, 255);
            merging(x, 255, 100, 1, 255);
        });
        CHECK.test("22 eight groups of one shipment each", () -> {
            FreightRater x = weighing("s1", 1, 2, 3, 4, 5, 6, 7, 8);
            best(x, 255, 36, 1, 2, 4, 8, 16, 32, 64, 128);
            merging(x, 255, 36, 8, 1);
        });
        CHECK.test("22 to 25 a set of one shipment", () -> {
            FreightRater x = weighing("m1:100", 1, 2);
            best(x, 2, 100, 2);
            merging(x, 2, 100, 1, 2);
        });
        CHECK.test("22 to 25 a set with gaps, of the first shipment and the last one", () -> {
            FreightRater x = weighing("m1:100", 1, 2, 3, 4, 5, 6, 7, 8, 9, 10);
            best(x, 513, 100, 513);
            merging(x, 513, 100, 1, 513);
            Check.amend(x, 0, "c10");
            best(x, 513, 200, 1, 512);
            merging(x, 513, 200, 2, 1);
        });
    }

    private static void leastTotal() {
        CHECK.test("22 together costs one cent less, the same, one cent more than alone", () -> {
            FreightRater x = weighing("m1:100;s99", 1, 1);
            best(x, 3, 199, 3);
            Check.amend(x, 0, "s100");
            best(x, 3, 200, 3);
            Check.amend(x, 0, "s101");
            best(x, 3, 200, 1, 2);
        });
        CHECK.test("22 the least total comes before the fewest groups", () -> {
            FreightRater x = weighing("m1:3;s4", 1, 1, 1);
            best(x, 7, 9, 1, 2, 4);
            Check.amend(x, 0, "s2");
            best(x, 7, 7, 7);
        });
        CHECK.test("22 the total has the stops of its groups", () -> {
            FreightRater x = weighing("m1:50;s10;c20", 12, 11, 8, 9);
            best(x, 15, 120, 5, 10);
        });
    }

    private static void fewestGroups() {
        CHECK.test("22 of several with the least total the one with the fewest groups", () -> {
            best(plain(4), 15, 10, 15);
            best(weighing("c6", 1, 2, 3, 4), 15, 10, 5, 10);
            best(weighing("c4", 1, 2, 3, 4), 15, 10, 3, 4, 8);
        });
        CHECK.test("22 the fewest groups come before the first ones", () -> {
            // {0} {1 2 3} and {0 1} {2 3} are two groups, {0} {1} {2} {3} would be the first of all.
            FreightRater x = weighing("c5", 1, 2, 2, 1);
            best(x, 15, 6, 1, 14);
        });
    }

    private static void firstOfSeveral() {
        CHECK.test("22 of several with the fewest groups the one whose first group is the lesser number", () -> {
            FreightRater x = weighing("c2", 1, 1, 1, 1);
            best(x, 15, 4, 3, 12);
            best(x, 7, 3, 1, 6);
            best(x, 13, 3, 1, 12);
        });
        CHECK.test("22 if the first groups are the same, the second ones are compared", () -> {
            FreightRater x = weighing("c4", 4, 2, 2, 2, 2);
            best(x, 31, 12, 1, 6, 24);
        });
        CHECK.test("22 if the first and the second groups are the same, the third ones are compared", () -> {
            FreightRater x = weighing("c4", 4, 4, 2, 2, 2, 2);
            best(x, 63, 16, 1, 2, 12, 48);
        });
        CHECK.test("22 a lesser number comes first, even if it has more shipments", () -> {
            // {0 1 2} is 7 and {0 3} is 9; both leave one other group, and 3 and 5 leave none that is not too heavy.
            best(weighing("c5", 1, 2, 2, 4), 15, 9, 7, 8);
        });
        CHECK.test("23 groups come in the order of their lowest shipments, not of their numbers", () -> {
            FreightRater x = weighing("c10", 1, 5, 5, 9);
            best(x, 15, 20, 9, 6);
        });
    }

    private static void refusedGroups() {
        CHECK.test("22 a group that is refused is in no consolidation: for the handlings", () -> {
            FreightRater x = Check.rater("z1:0-9;b1:0*1;m1:100");
            Check.load(x, 1, 1, 0);
            Check.load(x, 1, 0, 0);
            Check.load(x, 1, 2, 0);
            best(x, 5, 200, 1, 4);
            best(x, 7, 200, 1, 6);
            merging(x, 7, 200, 2, 3);
        });
        CHECK.test("22 a group that is refused is in no consolidation: for days and zones", () -> {
            FreightRater x = Check.rater("z1:0-9;z2:10-19;b1:0*1;b2:0*1;m1:100;m2:100");
            Check.load(x, 1, 0, 0);
            x.pack(x.ship(10, 0, 0, 0), 1, 1, 1, 1);
            x.pack(x.ship(0, 1, 0, 0), 1, 1, 1, 1);
            best(x, 7, 300, 1, 2, 4);
            merging(x, 7, 300, 3, 1);
        });
        CHECK.test("22 a group of just the capacity may be in it, one that weighs one more may not", () -> {
            best(weighing("m1:100;c10", 4, 6), 3, 100, 3);
            best(weighing("m1:100;c10", 5, 6), 3, 200, 1, 2);
            merging(weighing("m1:100;c10", 4, 6), 3, 100, 1, 3);
            merging(weighing("m1:100;c10", 5, 6), 3, 200, 2, 1);
        });
    }

    private static void mergingGain() {
        CHECK.test("25 two groups are merged for a gain of 1, not for 0 and not for a loss", () -> {
            FreightRater x = weighing("m1:100;s99", 1, 1);
            merging(x, 3, 199, 1, 3);
            Check.amend(x, 0, "s100");
            merging(x, 3, 200, 2, 1);
            Check.amend(x, 0, "s101");
            merging(x, 3, 200, 2, 1);
        });
        CHECK.test("25 the greatest gain comes first, by one cent", () -> {
            // 0 and 1 gain 79, 0 and 2 gain 80, 1 and 2 gain 81.
            merging(weighing("m1:100;c122", 61, 60, 59), 7, 219, 2, 1);
            merging(weighing("m1:100;c122", 60, 61, 59), 7, 219, 2, 5);
            merging(weighing("m1:100;c122", 59, 60, 61), 7, 219, 2, 3);
        });
    }

    private static void mergingTies() {
        CHECK.test("25 of several pairs the one with the least lower set", () -> {
            FreightRater x = weighing("m1:100;c2", 2, 1, 1, 1);
            merging(x, 15, 300, 3, 1);
            merging(weighing("m1:100;c2", 1, 2, 1, 1), 15, 300, 3, 5);
        });
        CHECK.test("25 then the one with the least greater set", () -> {
            FreightRater x = weighing("m1:100;c2", 1, 1, 1, 1);
            merging(x, 15, 200, 2, 3);
            merging(x, 13, 200, 2, 5);
        });
        CHECK.test("25 the sets of a pair are compared as numbers, not by their lowest shipments", () -> {
            // 0 and 3 save most; then 2 with 4, 2 with 9 and 4 with 9 save the same, and all four are too heavy.
            FreightRater x = Check.rater("z1:0-9;b1:0*1;m1:100;c3", "a0:500?-h2|-h3");
            for (int handlings : new int[] {4, 0, 0, 8}) {
                Check.load(x, 1, handlings, 0);
            }
            merging(x, 15, 700, 2, 9);
        });
    }

    private static void mergingTiesOfMergedGroups() {
        CHECK.test("25 the least lower set comes first, even if its greater set is the greater one", () -> {
            // 0 with 3 and 1 with 2 save most; then a third shipment saves more than another pair, and four are too heavy.
            FreightRater x = Check.rater("z1:0-9;b1:0*1;m1:100;c3", "a0:500?-n=3;a1:50?-h2&-h4|-h2&-h5|-h3&-h4|-h3&-h5");
            for (int handlings : new int[] {4, 16, 32, 8}) {
                Check.load(x, 1, handlings, 0);
            }
            merging(x, 15, 750, 2, 11);
        });
        CHECK.test("25 the least lower set comes first, if another pair has a merged group as its lower set", () ->
                merging(weighing("m1:100;c5", 2, 4, 2, 1), 15, 200, 2, 5));
        CHECK.test("25 the least greater set comes first, if a merged group is the lower set of both pairs", () ->
                merging(weighing("m1:100;c6", 1, 2, 2, 3), 15, 200, 2, 7));
        CHECK.test("25 a merged group may be the greater set of a pair, though it has the lowest shipment", () -> {
            FreightRater x = Check.rater("z1:0-9;b1:0*1;m1:100", "a0:50?-h2|-h3");
            for (int handlings : new int[] {8, 0, 4}) {
                Check.load(x, 1, handlings, 0);
            }
            merging(x, 7, 100, 1, 7);
        });
        CHECK.test("25 pairs that gain 1 are told apart in the same way", () ->
                merging(weighing("m1:10;c27", 4, 11, 5, 14), 15, 34, 2, 7));
    }

    private static void mergingSteps() {
        CHECK.test("25 merging goes on until there is one group", () ->
                merging(weighing("m1:100", 1, 1, 1, 1, 1, 1, 1, 1), 255, 100, 1, 255));
        CHECK.test("25 merging goes on with merged groups, and stops when all are too heavy", () -> {
            merging(weighing("m1:100;c4", 1, 1, 1, 1, 1, 1, 1, 1), 255, 200, 2, 15);
            merging(weighing("m1:100;c3", 1, 1, 1, 1, 1, 1, 1, 1), 255, 300, 3, 7);
        });
        CHECK.test("25 no merging can be better than the best consolidation, but it can be worse", () -> {
            FreightRater x = weighing("m1:50;c60", 30, 30, 29, 31);
            best(x, 15, 120, 3, 12);
            merging(x, 15, 159, 3, 5);
        });
    }

    private static void mergedGroup() {
        CHECK.test("25 the group that has the lowest shipment of the set, if it is not merged", () ->
                merging(weighing("m1:100;c3", 3, 1, 1, 1), 15, 200, 2, 1));
        CHECK.test("25 the group that has the lowest shipment of the set, if that is not shipment 0", () -> {
            FreightRater x = weighing("m1:100;c3", 1, 1, 3, 2);
            merging(x, 14, 200, 2, 10);
            merging(x, 12, 200, 2, 4);
        });
    }

    private static void nothingIsLeft() {
        CHECK.test("22 to 25 nothing of an earlier consolidation is left", () -> {
            FreightRater x = Check.rater("z1:0-9;z2:10-19;z3:20-29;b1:0*1;b2:0*1;b3:0*1;m1:100;m2:100;m3:100");
            int[] weights = {1, 1, 1, 3};
            for (int i = 0; i < 4; i++) {
                x.pack(x.ship(i < 2 ? 10 + 10 * i : 0, 0, 0, 0), 1, 1, 1, weights[i]);
            }
            // The group of 2 and 3 is in the best consolidation now, and refused later.
            CHECK.is("consolidate(15)", 300, () -> x.consolidate(15));
            CHECK.is("group(15, 2)", 12, () -> x.group(15, 2));
            x.route(0, 0, 0);
            x.route(1, 0, 0);
            Check.amend(x, 0, "c3");
            CHECK.is("searched(15)", 200, () -> x.searched(15));
            best(x, 15, 200, 7, 8);
            merging(x, 15, 200, 2, 7);
            merging(x, 8, 100, 1, 8);
            best(x, 12, 200, 4, 8);
        });
    }

    private static void greatTotals() {
        CHECK.test("22 to 25 eight of the greatest totals are added without a wrap-around", () -> {
            FreightRater x = Check.rater("z1:0-9;b1:0*99;d1000;f99;c0;a0:99*;a1:99*;a2:99*;a3:99*;a4:99*",
                    "a5:99*;a6:99*;a7:99*;a8:99*;a9:99*");
            for (int i = 0; i < 8; i++) {
                x.ship(0, 0, 0, 0);
                for (int k = 0; k < 5; k++) {
                    x.pack(i, 200, 200, 200, 999);
                }
            }
            long one = 40000L * 99 * 11;
            long total = one + (one * 99 + 50) / 100;
            CHECK.is("consolidate(255)", 8 * total, () -> x.consolidate(255));
            CHECK.is("searched(63)", 6 * total, () -> x.searched(63));
            CHECK.is("merged(255, 0)", 8 * total, () -> x.merged(255, 0));
        });
    }
}
