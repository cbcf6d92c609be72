/** A test for each boundary case of groups, of why they are refused, and of what they cost: promises 17 to 21. */
public final class RatingBoundsTest {
    private static final Check CHECK = new Check("RatingBoundsTest");

    public static void main(String[] args) {
        groups();
        withoutPieces();
        days();
        versions();
        zones();
        breaks();
        capacity();
        handlings();
        orderOfReasons();
        refusal();
        refusalStays();
        dimensionalWeights();
        greaterWeight();
        paidWeight();
        handlingTests();
        numberTests();
        rows();
        countingAccessorials();
        amounts();
        roundedPercentages();
        stopsAndFuel();
        whatNumbers();
        greatAmounts();
        meanPrice();
        CHECK.end();
    }

    private static FreightRater plain(int shipments) {
        FreightRater x = Check.rater("z1:0-9;b1:0*1");
        for (int i = 0; i < shipments; i++) {
            Check.load(x, i + 1, 0, 0);
        }
        return x;
    }

    private static void noGroup(FreightRater x, int group) {
        CHECK.fails("rate(" + group + ")", Check.INDEX, () -> x.rate(group));
        CHECK.fails("rating(" + group + ", 0)", Check.INDEX, () -> x.rating(group, 0));
        CHECK.fails("refuses(" + group + ")", Check.INDEX, () -> x.refuses(group));
        CHECK.fails("meanPrice(" + group + ")", Check.INDEX, () -> x.meanPrice(group));
    }

    private static void groups() {
        CHECK.test("17 to 19, 21 the empty set is no group", () -> {
            noGroup(plain(0), 0);
            noGroup(plain(10), 0);
        });
        CHECK.test("17 to 19, 21 without shipments there is no group", () -> noGroup(plain(0), 1));
        CHECK.test("17 to 19, 21 the first group of one and the last one of all", () -> {
            FreightRater x = plain(10);
            CHECK.is("rate(1)", 1, () -> x.rate(1));
            CHECK.is("rate(512)", 10, () -> x.rate(512));
            CHECK.is("rate(1023)", 55, () -> x.rate(1023));
            CHECK.is("rating(1023, 4)", 55, () -> x.rating(1023, 4));
            CHECK.is("refuses(1023)", 0, () -> x.refuses(1023));
            CHECK.is("meanPrice(1023)", 1, () -> x.meanPrice(1023));
        });
        CHECK.test("17 to 19, 21 a group with a shipment that does not exist", () -> {
            FreightRater x = plain(2);
            for (int group : new int[] {4, 5, 7, 8, 512, 1 << 30, 1 << 30 | 1}) {
                noGroup(x, group);
            }
            FreightRater ten = plain(10);
            for (int group : new int[] {1024, 1025, 2047, Integer.MAX_VALUE}) {
                noGroup(ten, group);
            }
        });
        CHECK.test("17 to 19, 21 a negative number is no group", () -> {
            FreightRater x = plain(10);
            for (int group : new int[] {-1, -1024, Integer.MIN_VALUE, Integer.MIN_VALUE + 1}) {
                noGroup(x, group);
            }
        });
        CHECK.test("17, 18, 21 exceptions: that there is no such group comes first, then that it is refused", () -> {
            FreightRater x = Check.rater();
            x.ship(0, 0, 0, 0);
            noGroup(x, 3);
            CHECK.fails("nothing is kept", Check.MISSING, () -> x.refusal(false));
        });
    }

    /** The group is refused for this reason with this detail, by each call. */
    private static void refused(FreightRater x, int group, int reason, int detail) {
        CHECK.is("refuses(" + group + ")", reason, () -> x.refuses(group));
        CHECK.fails("rating(" + group + ", 0)", Check.STATE, () -> x.rating(group, 0));
        CHECK.fails("meanPrice(" + group + ")", Check.STATE, () -> x.meanPrice(group));
        CHECK.fails("rate(" + group + ")", Check.STATE, () -> x.rate(group));
        CHECK.is("the reason", reason, () -> x.refusal(false));
        CHECK.is("the detail", detail, () -> x.refusal(true));
    }

    private static void rated(FreightRater x, int group) {
        CHECK.is("refuses(" + group + ")", 0, () -> x.refuses(group));
    }

    private static void withoutPieces() {
        CHECK.test("19 reason 1: a shipment has no pieces", () -> {
            FreightRater x = plain(0);
            x.ship(0, 0, 0, 0);
            refused(x, 1, 1, 0);
            x.pack(0, 1, 1, 1, 1);
            rated(x, 1);
            x.undo();
            refused(x, 1, 1, 0);
        });
        CHECK.test("19 reason 1: the lowest such shipment", () -> {
            FreightRater x = plain(8);
            x.ship(0, 0, 0, 0);
            x.ship(0, 0, 0, 0);
            refused(x, 1023, 1, 8);
            refused(x, 512, 1, 9);
            refused(x, 513, 1, 9);
            refused(x, 768, 1, 8);
            rated(x, 255);
        });
    }

    private static FreightRater onDays(int... days) {
        FreightRater x = plain(0);
        for (int day : days) {
            x.pack(x.ship(0, day, 0, 0), 1, 1, 1, 1);
        }
        return x;
    }

    private static void days() {
        CHECK.test("19 reason 2: two days that differ by one", () -> {
            refused(onDays(5, 6), 3, 2, 1);
            refused(onDays(6, 5), 3, 2, 1);
            rated(onDays(5, 5), 3);
        });
        CHECK.test("19 reason 2: the lowest shipment whose day is not that of the lowest one", () -> {
            FreightRater x = onDays(5, 5, 7, 6, 7, 5);
            refused(x, 63, 2, 2);
            refused(x, 1 | 2 | 8 | 16, 2, 3);
            refused(x, 4 | 8, 2, 3);
            refused(x, 4 | 16 | 32, 2, 5);
            rated(x, 4 | 16);
            rated(x, 1 | 2 | 32);
        });
        CHECK.test("19 reason 2 does not apply to one shipment", () -> rated(onDays(999), 1));
    }

    private static void versions() {
        CHECK.test("19 reason 3: there is no version of the day before the first one; the day", () -> {
            FreightRater x = new FreightRater();
            x.makeVersion(999, -1);
            Check.amend(x, 0, "z1:0-9;b1:0*1");
            Check.load(x, 1, 0, 0);
            refused(x, 1, 3, 0);
            x.route(0, 0, 998);
            refused(x, 1, 3, 998);
            x.route(0, 0, 999);
            rated(x, 1);
        });
        CHECK.test("19 reason 3: without versions", () -> {
            FreightRater x = new FreightRater();
            x.pack(x.ship(0, 7, 0, 0), 1, 1, 1, 1);
            refused(x, 1, 3, 7);
        });
        CHECK.test("18 the version of the day: the last day of one and the first day of the next", () -> {
            FreightRater x = plain(1);
            x.makeVersion(10, 0);
            x.route(0, 0, 9);
            CHECK.is("on day 9", 0, () -> x.rating(1, 9));
            x.route(0, 0, 10);
            CHECK.is("on day 10", 1, () -> x.rating(1, 9));
        });
    }

    private static FreightRater atPlaces(int... places) {
        FreightRater x = Check.rater("z1:10-20;z2:21-30;b1:0*1;b2:0*1");
        for (int place : places) {
            x.pack(x.ship(place, 0, 0, 0), 1, 1, 1, 1);
        }
        return x;
    }

    private static void zones() {
        CHECK.test("19 reason 4: a place next to all ranges has no zone", () -> {
            refused(atPlaces(9), 1, 4, 0);
            rated(atPlaces(10), 1);
            rated(atPlaces(30), 1);
            refused(atPlaces(31), 1, 4, 0);
        });
        CHECK.test("19 reason 4: the lowest such shipment", () -> {
            FreightRater x = atPlaces(10, 31, 20, 9);
            refused(x, 15, 4, 1);
            refused(x, 13, 4, 3);
            refused(x, 10, 4, 1);
            rated(x, 5);
        });
        CHECK.test("19 reason 5: places of two zones next to each other", () -> {
            refused(atPlaces(20, 21), 3, 5, 1);
            rated(atPlaces(10, 20), 3);
            rated(atPlaces(21, 30), 3);
        });
        CHECK.test("19 reason 5: the lowest shipment whose zone is not that of the lowest one", () -> {
            FreightRater x = atPlaces(10, 11, 30, 12, 29);
            refused(x, 31, 5, 2);
            refused(x, 1 | 2 | 8 | 16, 5, 4);
            refused(x, 4 | 8 | 16, 5, 3);
            rated(x, 4 | 16);
        });
        CHECK.test("19 reason 5: different places of the same zone, in two ranges", () -> {
            FreightRater x = Check.rater("z1:0-0;z1:999-999;b1:0*1");
            x.pack(x.ship(0, 0, 0, 0), 1, 1, 1, 1);
            x.pack(x.ship(999, 0, 0, 0), 1, 1, 1, 1);
            rated(x, 3);
        });
    }

    private static void breaks() {
        CHECK.test("19 reason 6: the zone has no breaks; the zone", () -> {
            FreightRater x = Check.rater("z9:0-9;b1:0*1;m9:5");
            Check.load(x, 1, 0, 0);
            refused(x, 1, 6, 9);
            Check.amend(x, 0, "b9:0*1");
            rated(x, 1);
            Check.amend(x, 0, "b9:0*0");
            refused(x, 1, 6, 9);
        });
        CHECK.test("19 reason 6: of a group of several", () -> {
            FreightRater x = Check.rater("z1:0-9");
            Check.load(x, 1, 0, 0);
            Check.load(x, 1, 0, 0);
            refused(x, 3, 6, 1);
        });
    }

    private static void capacity() {
        CHECK.test("19 reason 7: two shipments weigh one less than the capacity, just that, one more; the weight", () -> {
            FreightRater x = Check.rater("z1:0-9;b1:0*1;c12");
            Check.load(x, 5, 0, 0);
            Check.load(x, 6, 0, 0);
            rated(x, 3);
            x.pack(1, 1, 1, 1, 1);
            rated(x, 3);
            x.pack(1, 1, 1, 1, 1);
            refused(x, 3, 7, 13);
        });
        CHECK.test("19 reason 7 does not apply to one shipment", () -> {
            FreightRater x = Check.rater("z1:0-9;b1:0*1;c0");
            Check.load(x, 999, 0, 0);
            rated(x, 1);
        });
        CHECK.test("19 reason 7: with the capacity 0 no two shipments can be together", () -> {
            FreightRater x = Check.rater("z1:0-9;b1:0*1;c0");
            Check.load(x, 1, 0, 0);
            Check.load(x, 1, 0, 0);
            refused(x, 3, 7, 2);
        });
        CHECK.test("19 reason 7: the capacity of an empty version is 999", () -> {
            FreightRater x = Check.rater("z1:0-9;b1:0*1");
            Check.load(x, 998, 0, 0);
            Check.load(x, 1, 0, 0);
            Check.load(x, 1, 0, 0);
            rated(x, 3);
            refused(x, 7, 7, 1000);
        });
        CHECK.test("19 reason 7: the greatest capacity is 9999", () -> {
            FreightRater x = Check.rater("z1:0-9;b1:0*1;c9999");
            x.ship(0, 0, 0, 0);
            x.ship(0, 0, 0, 0);
            for (int i = 0; i < 10; i++) {
                x.pack(i / 5, 1, 1, 1, 999);
            }
            Check.load(x, 9, 0, 0);
            Check.load(x, 1, 0, 0);
            rated(x, 7);
            refused(x, 15, 7, 10000);
        });
        CHECK.test("19 reason 7: the dimensional weight counts, if it is the greater one", () -> {
            FreightRater x = Check.rater("z1:0-9;b1:0*1;c12;d1000");
            x.pack(x.ship(0, 0, 0, 0), 10, 10, 60, 1);
            x.pack(x.ship(0, 0, 0, 0), 10, 10, 60, 1);
            rated(x, 3);
            x.pack(1, 1, 1, 1, 1);
            refused(x, 3, 7, 13);
        });
    }

    private static FreightRater handled(int... sets) {
        FreightRater x = plain(0);
        for (int set : sets) {
            Check.load(x, 1, set, 0);
        }
        return x;
    }

    private static void handlings() {
        CHECK.test("19 reason 8: one shipment has the handling 0, another one the handling 1", () -> {
            refused(handled(1, 2), 3, 8, 0);
            refused(handled(2, 1), 3, 8, 0);
        });
        CHECK.test("19 reason 8: each can have the other handling, too", () -> {
            refused(handled(3, 1), 3, 8, 0);
            refused(handled(3, 2), 3, 8, 0);
            refused(handled(1, 3), 3, 8, 0);
            refused(handled(2, 3), 3, 8, 0);
            refused(handled(3, 3), 3, 8, 0);
            refused(handled(255, 255), 3, 8, 0);
        });
        CHECK.test("19 reason 8 does not apply to one shipment that has both", () -> {
            rated(handled(3), 1);
            rated(handled(3, 0), 3);
            rated(handled(252, 3), 3);
        });
        CHECK.test("19 reason 8 does not apply if no other one has the other handling", () -> {
            rated(handled(1, 1, 1), 7);
            rated(handled(2, 2, 2), 7);
            rated(handled(0, 1, 4), 7);
            rated(handled(252, 252), 3);
            rated(handled(1, 252), 3);
            rated(handled(2, 252), 3);
        });
        CHECK.test("19 reason 8: the lowest shipment with one of both, so that another one has the other one", () -> {
            FreightRater x = handled(0, 4, 2, 252, 2, 1, 3, 1);
            refused(x, 255, 8, 2);
            refused(x, 16 | 32, 8, 4);
            refused(x, 8 | 32 | 64, 8, 5);
            refused(x, 64 | 128, 8, 6);
            refused(x, 1 | 2 | 4 | 128, 8, 2);
            rated(x, 1 | 2 | 4 | 8 | 16);
            rated(x, 1 | 2 | 8 | 64);
            rated(x, 32 | 128);
        });
    }

    private static void orderOfReasons() {
        CHECK.test("19 reason 1 comes before reason 2", () -> {
            FreightRater x = onDays(5, 6);
            x.ship(0, 7, 0, 0);
            refused(x, 7, 1, 2);
        });
        CHECK.test("19 reason 1 comes before reason 3", () -> {
            FreightRater x = new FreightRater();
            x.ship(0, 7, 0, 0);
            refused(x, 1, 1, 0);
        });
        CHECK.test("19 reason 2 comes before reason 3", () -> {
            FreightRater x = new FreightRater();
            x.pack(x.ship(0, 7, 0, 0), 1, 1, 1, 1);
            x.pack(x.ship(0, 8, 0, 0), 1, 1, 1, 1);
            refused(x, 3, 2, 1);
        });
        CHECK.test("19 reason 2 comes before reason 4", () -> {
            FreightRater x = atPlaces(9, 9);
            x.route(1, 9, 1);
            refused(x, 3, 2, 1);
        });
        CHECK.test("19 reason 4 comes before reason 5, also with a higher shipment", () -> {
            refused(atPlaces(20, 21, 31), 7, 4, 2);
            refused(atPlaces(31, 20, 21), 7, 4, 0);
        });
        CHECK.test("19 reason 5 comes before reason 6", () -> {
            FreightRater x = atPlaces(20, 21);
            Check.amend(x, 0, "b1:0*0;b2:0*0");
            refused(x, 3, 5, 1);
        });
        CHECK.test("19 reason 6 comes before reason 7", () -> {
            FreightRater x = plain(2);
            Check.amend(x, 0, "c0;b1:0*0");
            refused(x, 3, 6, 1);
        });
        CHECK.test("19 reason 7 comes before reason 8", () -> {
            FreightRater x = handled(1, 2);
            Check.amend(x, 0, "c1");
            refused(x, 3, 7, 2);
            Check.amend(x, 0, "c2");
            refused(x, 3, 8, 0);
        });
    }

    private static void refusal() {
        CHECK.test("20 nothing was kept yet, for both", () -> {
            FreightRater x = plain(1);
            x.rate(1);
            CHECK.fails("refusal(false)", Check.MISSING, () -> x.refusal(false));
            CHECK.fails("refusal(true)", Check.MISSING, () -> x.refusal(true));
        });
        CHECK.test("20 only rate, consolidate and post keep why", () -> {
            FreightRater x = plain(0);
            x.ship(0, 0, 0, 0);
            x.refuses(1);
            CHECK.fails("rating(1, 0)", Check.STATE, () -> x.rating(1, 0));
            CHECK.fails("meanPrice(1)", Check.STATE, () -> x.meanPrice(1));
            CHECK.fails("group(1, 0)", Check.STATE, () -> x.group(1, 0));
            CHECK.fails("searched(1)", Check.STATE, () -> x.searched(1));
            CHECK.fails("merged(1, 0)", Check.STATE, () -> x.merged(1, 0));
            CHECK.fails("refusal(false)", Check.MISSING, () -> x.refusal(false));
            CHECK.fails("refusal(true)", Check.MISSING, () -> x.refusal(true));
        });
        CHECK.test("17, 20 rate keeps why", () -> kept(x -> x.rate(3), 1, 1));
        CHECK.test("22, 20 consolidate keeps why", () -> kept(x -> x.consolidate(3), 1, 1));
        CHECK.test("26, 20 post keeps why", () -> kept(x -> x.post(3), 1, 1));
        CHECK.test("20 the reason that was kept last, and its detail", () -> {
            FreightRater x = atPlaces(9, 10, 21);
            x.ship(10, 0, 0, 0);
            refused(x, 8, 1, 3);
            refused(x, 6, 5, 2);
            refused(x, 1, 4, 0);
        });
        CHECK.test("22, 26 the groups of several that a consolidation can't have are not kept", () -> {
            FreightRater x = handled(1, 2);
            x.consolidate(3);
            x.post(3);
            CHECK.fails("refusal(false)", Check.MISSING, () -> x.refusal(false));
        });
    }

    private interface Rated {
        int by(FreightRater rater);
    }

    /** Shipment 1 has no pieces, so the call is refused and keeps why. */
    private static void kept(Rated call, int reason, int detail) {
        FreightRater x = plain(1);
        x.ship(0, 0, 0, 0);
        CHECK.fails("the call", Check.STATE, () -> call.by(x));
        CHECK.is("the reason", reason, () -> x.refusal(false));
        CHECK.is("the detail", detail, () -> x.refusal(true));
    }

    private static FreightRater oneRefused() {
        FreightRater x = atPlaces(10, 10, 9);
        CHECK.fails("rate(4)", Check.STATE, () -> x.rate(4));
        return x;
    }

    private static void stillRefused(FreightRater x) {
        CHECK.is("the reason", 4, () -> x.refusal(false));
        CHECK.is("the detail", 2, () -> x.refusal(true));
    }

    private static void refusalStays() {
        CHECK.test("20 it stays after groups that are not refused", () -> {
            FreightRater x = oneRefused();
            x.rate(1);
            x.consolidate(3);
            x.post(3);
            stillRefused(x);
        });
        CHECK.test("20 it stays after calls with wrong arguments", () -> {
            FreightRater x = oneRefused();
            CHECK.fails("rate(0)", Check.INDEX, () -> x.rate(0));
            CHECK.fails("rate(8)", Check.INDEX, () -> x.rate(8));
            CHECK.fails("consolidate(0)", Check.INDEX, () -> x.consolidate(0));
            CHECK.fails("post(8)", Check.INDEX, () -> x.post(8));
            stillRefused(x);
        });
        CHECK.test("20 it is not undone", () -> {
            FreightRater x = oneRefused();
            x.undo();
            x.undo();
            stillRefused(x);
        });
        CHECK.test("20 it is neither saved nor restored", () -> {
            FreightRater x = atPlaces(10, 10, 9);
            x.saveSnapshot();
            CHECK.fails("rate(4)", Check.STATE, () -> x.rate(4));
            x.restoreSnapshot();
            stillRefused(x);
        });
    }

    private static void dimensional(int divisor, int length, int width, int height, int due) {
        FreightRater x = Check.rater("z1:0-9;b1:0*1;d" + divisor);
        x.pack(x.ship(0, 0, 0, 0), length, width, height, 1);
        CHECK.is(length + " by " + width + " by " + height + " by the divisor " + divisor, due, () -> x.rating(1, 4));
    }

    private static void dimensionalWeights() {
        CHECK.test("18 the dimensional weight is rounded up: a multiple of the divisor, one less, one more", () -> {
            dimensional(5000, 100, 100, 1, 2);
            dimensional(5000, 99, 101, 1, 2);
            dimensional(5000, 73, 137, 1, 3);
            dimensional(1000, 7, 11, 13, 2);
            dimensional(1000, 3, 9, 37, 1);
            dimensional(1001, 7, 11, 13, 1);
        });
        CHECK.test("18 the least piece has a dimensional weight of 1, the greatest one by the least divisor 8000", () -> {
            dimensional(9999, 1, 1, 1, 1);
            dimensional(1000, 200, 200, 200, 8000);
            dimensional(9999, 200, 200, 200, 801);
        });
        CHECK.test("18 each piece is rounded up by itself", () -> {
            FreightRater x = Check.rater("z1:0-9;b1:0*1;d1000");
            x.ship(0, 0, 0, 0);
            for (int i = 0; i < 5; i++) {
                x.pack(0, 10, 10, 11, 1);
            }
            CHECK.is("five pieces of 1100", 10, () -> x.rating(1, 4));
        });
        CHECK.test("18 the divisor is that of the version", () -> {
            FreightRater x = Check.rater("z1:0-9;b1:0*1;d1000");
            x.makeVersion(1, 0);
            Check.amend(x, 1, "d2000");
            x.pack(x.ship(0, 0, 0, 0), 100, 100, 1, 1);
            CHECK.is("by 1000", 10, () -> x.rating(1, 4));
            x.route(0, 0, 1);
            CHECK.is("by 2000", 5, () -> x.rating(1, 4));
        });
    }

    private static void greaterWeight() {
        CHECK.test("18 the weight is the greater one: the dimensional one is one less, the same, one more", () -> {
            FreightRater x = Check.rater("z1:0-9;b1:0*1;d1000");
            int[] sides = {9, 10, 11};
            int[] due = {10, 10, 11};
            for (int i = 0; i < 3; i++) {
                x.pack(x.ship(0, 0, 0, 0), 10, 100, sides[i], 10);
                int group = 1 << i;
                CHECK.is("10 kg and " + sides[i] + " dimensional ones", due[i], () -> x.rating(group, 4));
            }
        });
        CHECK.test("18 the sums are compared, not the weights of pieces or shipments", () -> {
            FreightRater x = Check.rater("z1:0-9;b1:0*1;d1000");
            x.ship(0, 0, 0, 0);
            x.pack(0, 10, 10, 70, 2);
            x.pack(0, 10, 10, 10, 8);
            CHECK.is("7 and 1 by size, 2 and 8 real", 10, () -> x.rating(1, 4));
            x.pack(x.ship(0, 0, 0, 0), 10, 10, 90, 1);
            CHECK.is("17 by size, 11 real", 17, () -> x.rating(3, 4));
        });
    }

    private static void paid(String breaks, int weight, int due, int paid, int breakWeight) {
        FreightRater x = Check.rater("z1:0-9;" + breaks);
        Check.load(x, weight, 0, 0);
        CHECK.is("base of " + weight + " by " + breaks, due, () -> x.rating(1, 0));
        CHECK.is("paid weight of " + weight + " by " + breaks, paid, () -> x.rating(1, 5));
        CHECK.is("break of " + weight + " by " + breaks, breakWeight, () -> x.rating(1, 6));
    }

    private static void paidWeight() {
        CHECK.test("18 the paid weight: one less than that of the break, just that, one more", () -> {
            paid("b1:10*5", 9, 50, 10, 10);
            paid("b1:10*5", 10, 50, 10, 10);
            paid("b1:10*5", 11, 55, 11, 10);
        });
        CHECK.test("18 of several possibilities that cost the same the least weight of the break is taken", () -> {
            paid("b1:0*10;b1:100*7", 70, 700, 70, 0);
            paid("b1:0*10;b1:100*7", 71, 700, 100, 100);
            paid("b1:100*5;b1:50*10", 20, 500, 50, 50);
            paid("b1:3*7;b1:2*7;b1:1*7;b1:0*7", 5, 35, 5, 0);
            paid("b1:9*7;b1:8*7;b1:7*7;b1:6*8", 9, 63, 9, 7);
        });
        CHECK.test("18 the least weight of the break is 0, the greatest one 9999", () -> {
            paid("b1:0*1;b1:9999*1", 1, 1, 1, 0);
            paid("b1:9999*1", 1, 9999, 9999, 9999);
        });
        CHECK.test("18 the minimum charge changes the base, but neither paid weight nor break", () -> {
            paid("b1:0*2;m1:9", 4, 9, 4, 0);
            paid("b1:0*2;m1:10", 5, 10, 5, 0);
            paid("b1:0*2;m1:11", 5, 11, 5, 0);
            paid("b1:0*2;m1:11", 6, 12, 6, 0);
            paid("b1:0*10;b1:100*7;m1:9999", 80, 9999, 100, 100);
        });
    }

    private static void holds(FreightRater x, int group, String test, boolean due) {
        Check.amend(x, 0, "a0:1?" + test);
        CHECK.is(test, due ? 1 : 0, () -> x.rating(group, 7));
    }

    private static void handlingTests() {
        CHECK.test("18 h: the group has the handling, each from 0 to 7", () -> {
            for (int h = 0; h < 8; h++) {
                FreightRater x = handled(1 << h, 255 - (1 << h));
                holds(x, 1, "h" + h, true);
                holds(x, 1, "-h" + h, false);
                holds(x, 2, "h" + h, false);
                holds(x, 2, "-h" + h, true);
            }
        });
        CHECK.test("18 h: at least one shipment of the group has it", () -> {
            FreightRater x = handled(4, 0, 0);
            holds(x, 7, "h2", true);
            holds(x, 5, "h2", true);
            holds(x, 6, "h2", false);
        });
        CHECK.test("18 h: without any handling, and with all of them", () -> {
            FreightRater x = handled(0, 255);
            holds(x, 1, "h0|h1|h2|h3|h4|h5|h6|h7", false);
            holds(x, 2, "h0&h1&h2&h3&h4&h5&h6&h7", true);
        });
    }

    /** The number of the group is compared with one less, with the same, with one more. */
    private static void compared(FreightRater x, int group, char name, int number) {
        int[] with = {number - 1, number, number + 1};
        boolean[][] due = {{false, true, false}, {false, false, true}, {true, false, false}};
        for (int i = 0; i < 3; i++) {
            for (int relation = 0; relation < 3; relation++) {
                String test = "" + name + "<>=".charAt(relation) + with[i];
                holds(x, group, test, due[i][relation]);
                holds(x, group, "-" + test, !due[i][relation]);
            }
        }
    }

    private static void numberTests() {
        CHECK.test("18 w: the weight of the group is one less, the same, one more; the real one", () -> {
            FreightRater x = plain(3);
            compared(x, 7, 'w', 6);
        });
        CHECK.test("18 w: the dimensional weight, if it is the greater one", () -> {
            FreightRater x = Check.rater("z1:0-9;b1:0*1;d1000");
            x.pack(x.ship(0, 0, 0, 0), 10, 10, 100, 9);
            compared(x, 1, 'w', 10);
        });
        CHECK.test("18 w: not the paid weight", () -> {
            FreightRater x = Check.rater("z1:0-9;b1:100*1");
            Check.load(x, 5, 0, 0);
            compared(x, 1, 'w', 5);
        });
        CHECK.test("18 n: the number of all pieces is one less, the same, one more", () -> {
            FreightRater x = plain(2);
            x.pack(0, 1, 1, 1, 1);
            compared(x, 3, 'n', 3);
        });
        CHECK.test("18 n: the fewest pieces and the most", () -> {
            FreightRater x = plain(10);
            compared(x, 1, 'n', 1);
            for (int i = 0; i < 50; i++) {
                if (i % 5 > 0) {
                    x.pack(i / 5, 1, 1, 1, 1);
                }
            }
            holds(x, 1023, "n=50", true);
            holds(x, 1023, "n>50", false);
            holds(x, 1023, "n<50", false);
        });
        CHECK.test("18 l: the longest side is one less, the same, one more", () -> {
            FreightRater x = plain(2);
            x.pack(1, 3, 7, 2, 1);
            compared(x, 3, 'l', 7);
        });
        CHECK.test("18 l: the least longest side and the greatest one", () -> {
            FreightRater x = plain(2);
            compared(x, 1, 'l', 1);
            x.pack(1, 1, 1, 200, 1);
            compared(x, 3, 'l', 200);
        });
        CHECK.test("18 z: the zone is one less, the same, one more; zones 1 and 9", () -> {
            FreightRater x = Check.rater("z1:0-0;z9:9-9;b1:0*1;b9:0*1");
            Check.load(x, 1, 0, 0);
            x.pack(x.ship(9, 0, 0, 0), 1, 1, 1, 1);
            compared(x, 1, 'z', 1);
            compared(x, 2, 'z', 9);
        });
        CHECK.test("18 w, n, l, z: the numbers 0 and 9999", () -> {
            FreightRater x = plain(1);
            for (char name : new char[] {'w', 'n', 'l', 'z'}) {
                holds(x, 1, name + ">0", true);
                holds(x, 1, name + "=0", false);
                holds(x, 1, name + "<9999", true);
                holds(x, 1, name + "=9999", false);
            }
        });
    }

    private static void rows() {
        FreightRater x = handled(4);
        // h2 holds, h3 does not.
        CHECK.test("18 a row holds if all of its tests do: the first one, one between, the last one fails", () -> {
            holds(x, 1, "h2&h2&h2", true);
            holds(x, 1, "h3&h2&h2", false);
            holds(x, 1, "h2&h3&h2", false);
            holds(x, 1, "h2&h2&h3", false);
        });
        CHECK.test("18 a condition holds if one of its rows does: the first one, one between, the last one, none", () -> {
            holds(x, 1, "h2|h3|h3", true);
            holds(x, 1, "h3|h2|h3", true);
            holds(x, 1, "h3|h3|h2", true);
            holds(x, 1, "h3|h3|h3", false);
        });
        CHECK.test("18 rows of several tests", () -> {
            holds(x, 1, "h2&h3|h3&h2", false);
            holds(x, 1, "h2&h3|h2&h2", true);
            holds(x, 1, "h2&h2|h3&h2", true);
            holds(x, 1, "h3|h2&h3|h2", true);
            holds(x, 1, "h3&h3&h2|h3|h3&h2", false);
        });
        CHECK.test("18 a minus sign is that of its test alone", () -> {
            holds(x, 1, "-h3&h2", true);
            holds(x, 1, "-h3&h3", false);
            holds(x, 1, "-h2|h2", true);
            holds(x, 1, "-h2|h3", false);
        });
        CHECK.test("18 an accessorial without a condition counts", () -> {
            CHECK.is("set", 1, () -> {
                Check.amend(x, 0, "a0:1");
                return x.rating(1, 7);
            });
        });
    }

    private static void counting(String text, int due) {
        FreightRater x = Check.rater("z1:0-9;b1:0*1", text);
        Check.load(x, 1, 4, 0);
        CHECK.is(text, due, () -> x.rating(1, 7));
    }

    private static void countingAccessorials() {
        CHECK.test("18 no accessorials, the first one, the last one, all of them", () -> {
            counting("c999", 0);
            counting("a0:1", 1);
            counting("a9:1", 512);
            counting("a0:1;a1:1;a2:1;a3:1;a4:1;a5:1;a6:1;a7:1;a8:1;a9:1", 1023);
        });
        CHECK.test("18 it excludes the next one and the last one", () -> {
            counting("a0:1!1;a1:1", 1);
            counting("a0:1!9;a9:1", 1);
            counting("a8:1!9;a9:1", 256);
        });
        CHECK.test("18 it does not exclude itself, nor a lesser one", () -> {
            counting("a5:1!5", 32);
            counting("a0:1!0", 1);
            counting("a4:1;a5:1!4", 48);
            counting("a0:1;a9:1!0", 513);
        });
        CHECK.test("18 one that does not count excludes nothing: its condition does not hold", () -> {
            counting("a0:1?h3!1;a1:1", 2);
            counting("a0:1?h2!1;a1:1", 1);
        });
        CHECK.test("18 one that does not count excludes nothing: it is excluded itself", () -> {
            counting("a0:1!1;a1:1!2;a2:1", 5);
            counting("a0:1!1;a1:1!2;a2:1!3;a3:1", 5);
        });
        CHECK.test("18 two exclude the same one", () -> counting("a0:1!2;a1:1!2;a2:1", 3));
        CHECK.test("18 an excluded one does not count, even if its condition holds", () -> counting("a0:1!1;a1:1?h2", 1));
        CHECK.test("18 one may exclude another one that is missing", () -> counting("a0:1!1;a2:1", 5));
    }

    private static void amounts() {
        CHECK.test("18 the amounts of those that count are added, of no other ones", () -> {
            FreightRater x = Check.rater("z1:0-9;b1:0*1;a0:1;a1:20?h3;a2:300!3;a3:4000;a9:5000");
            Check.load(x, 1, 4, 0);
            CHECK.is("amounts", 5301, () -> x.rating(1, 1));
            CHECK.is("none", 0, () -> plain(1).rating(1, 1));
        });
        CHECK.test("18 an amount of 0 counts", () -> {
            FreightRater x = Check.rater("z1:0-9;b1:0*1;a0:0!1;a1:5");
            Check.load(x, 1, 4, 0);
            CHECK.is("set", 1, () -> x.rating(1, 7));
            CHECK.is("amounts", 0, () -> x.rating(1, 1));
        });
        CHECK.test("18 with * the weight of the group counts, not the paid weight", () -> {
            FreightRater x = Check.rater("z1:0-9;b1:100*1;a0:99*");
            Check.load(x, 7, 0, 0);
            CHECK.is("amounts", 693, () -> x.rating(1, 1));
            CHECK.is("paid weight", 100, () -> x.rating(1, 5));
        });
        CHECK.test("18 with % the base counts, which is the minimum charge if that is greater", () -> {
            FreightRater x = Check.rater("z1:0-9;b1:0*1;m1:200;a0:50%");
            Check.load(x, 7, 0, 0);
            CHECK.is("amounts", 100, () -> x.rating(1, 1));
        });
        CHECK.test("18 with % the base alone counts, no other amounts and no stops", () -> {
            FreightRater x = Check.rater("z1:0-9;b1:0*10;s99;a0:77;a1:50%;a2:50%");
            Check.load(x, 3, 0, 0);
            Check.load(x, 7, 0, 0);
            CHECK.is("amounts", 77 + 50 + 50, () -> x.rating(3, 1));
        });
        CHECK.test("18 0 per cent and 50 per cent, 0 and 99 per kilogram", () -> {
            int[] due = {0, 100, 0, 198};
            String[] charges = {"0%", "50%", "0*", "99*"};
            for (int i = 0; i < due.length; i++) {
                FreightRater x = Check.rater("z1:0-9;b1:0*99;b1:2*99;m1:200;a0:" + charges[i]);
                Check.load(x, 2, 0, 0);
                CHECK.is(charges[i], due[i], () -> x.rating(1, 1));
            }
        });
    }

    private static void roundedPercentages() {
        int[] bases = {1, 49, 50, 51, 149, 150, 151, 249, 250, 9950};
        int[] due = {0, 0, 1, 1, 1, 2, 2, 2, 3, 100};
        CHECK.test("18 a percentage of the base is rounded to the nearest cent, and up if two are equally near", () -> {
            for (int i = 0; i < bases.length; i++) {
                FreightRater x = Check.rater("z1:0-9;b1:0*1;m1:" + bases[i] + ";a0:1%");
                Check.load(x, 1, 0, 0);
                CHECK.is("1 per cent of " + bases[i], due[i], () -> x.rating(1, 1));
            }
        });
        CHECK.test("18 the fuel is rounded to the nearest cent, and up if two are equally near", () -> {
            for (int i = 0; i < bases.length; i++) {
                FreightRater x = Check.rater("z1:0-9;b1:0*1;f1;m1:" + bases[i]);
                Check.load(x, 1, 0, 0);
                CHECK.is("1 per cent of " + bases[i], due[i], () -> x.rating(1, 3));
            }
        });
        CHECK.test("18 each percentage is rounded by itself", () -> {
            FreightRater x = Check.rater("z1:0-9;b1:0*1;m1:150;a0:1%;a1:1%;a2:1%");
            Check.load(x, 1, 0, 0);
            CHECK.is("three times 2", 6, () -> x.rating(1, 1));
        });
    }

    private static void stopsAndFuel() {
        CHECK.test("18 stops: none for one shipment, one for two, nine for ten", () -> {
            FreightRater x = plain(10);
            Check.amend(x, 0, "s9999");
            CHECK.is("one", 0, () -> x.rating(512, 2));
            CHECK.is("two", 9999, () -> x.rating(513, 2));
            CHECK.is("ten", 9 * 9999, () -> x.rating(1023, 2));
        });
        CHECK.test("18 stops: the stop charge 0", () -> CHECK.is("ten", 0, () -> plain(10).rating(1023, 2)));
        CHECK.test("18 fuel: 0 per cent and 99 per cent", () -> {
            FreightRater x = Check.rater("z1:0-9;b1:0*1;m1:200");
            Check.load(x, 1, 0, 0);
            CHECK.is("0 per cent", 0, () -> x.rating(1, 3));
            Check.amend(x, 0, "f99");
            CHECK.is("99 per cent", 198, () -> x.rating(1, 3));
        });
        CHECK.test("18 fuel: of the sum of base, amounts and stops, and the total is the sum of all four", () -> {
            FreightRater x = Check.rater("z1:0-9;b1:0*1;m1:1000;a0:200;s30;f10");
            Check.load(x, 1, 0, 0);
            Check.load(x, 1, 0, 0);
            CHECK.is("base", 1000, () -> x.rating(3, 0));
            CHECK.is("amounts", 200, () -> x.rating(3, 1));
            CHECK.is("stops", 30, () -> x.rating(3, 2));
            CHECK.is("fuel", 123, () -> x.rating(3, 3));
            CHECK.is("total", 1353, () -> x.rate(3));
        });
        CHECK.test("18 fuel: of the rounded amounts, not of the exact ones", () -> {
            FreightRater x = Check.rater("z1:0-9;b1:0*1;m1:50;a0:1%;f50");
            Check.load(x, 1, 0, 0);
            CHECK.is("50 per cent of 51", 26, () -> x.rating(1, 3));
        });
    }

    private static void whatNumbers() {
        FreightRater x = Check.rater("z7:0-9;b7:20*3;m7:1;d1000;s11;f50;a3:5");
        x.makeVersion(500, -1);
        Check.load(x, 5, 0, 0);
        Check.load(x, 6, 0, 0);
        x.ship(0, 0, 0, 0);
        CHECK.test("18 what: all from 0 to 9, of a group of two", () -> {
            int[] due = {60, 5, 11, 38, 11, 20, 20, 8, 7, 0};
            for (int what = 0; what < due.length; what++) {
                int asked = what;
                CHECK.is("rating(3, " + what + ")", due[what], () -> x.rating(3, asked));
            }
        });
        CHECK.test("18 what: out of range", () -> {
            for (int what : Check.outside(0, 9)) {
                CHECK.fails("rating(3, " + what + ")", Check.ARGUMENT, () -> x.rating(3, what));
            }
        });
        CHECK.test("18 exceptions: the group comes first, then what", () -> {
            CHECK.fails("rating(0, 10)", Check.INDEX, () -> x.rating(0, 10));
            CHECK.fails("rating(8, -1)", Check.INDEX, () -> x.rating(8, -1));
        });
        CHECK.test("18 exceptions: what comes first, then that the group is refused", () -> {
            CHECK.fails("rating(4, 10)", Check.ARGUMENT, () -> x.rating(4, 10));
            CHECK.fails("rating(4, -1)", Check.ARGUMENT, () -> x.rating(4, -1));
            CHECK.fails("rating(4, 9)", Check.STATE, () -> x.rating(4, 9));
        });
        CHECK.test("18 a rating leaves nothing of the one before", () -> {
            CHECK.is("set of 3", 8, () -> x.rating(3, 7));
            CHECK.is("stops of 1", 0, () -> x.rating(1, 2));
            CHECK.is("weight of 1", 5, () -> x.rating(1, 4));
            CHECK.fails("refused", Check.STATE, () -> x.rating(4, 0));
            CHECK.is("total of 3", 114, () -> x.rate(3));
        });
    }

    private static void greatAmounts() {
        CHECK.test("17 the greatest total of one shipment, without a wrap-around", () -> {
            FreightRater x = Check.rater("z1:0-9;b1:0*99;d1000;f99;s9999;a0:99*;a1:99*;a2:99*;a3:99*;a4:99*",
                    "a5:99*;a6:99*;a7:99*;a8:99*;a9:99*");
            x.ship(0, 0, 0, 0);
            for (int i = 0; i < 5; i++) {
                x.pack(0, 200, 200, 200, 999);
            }
            long sum = 40000L * 99 * 11;
            CHECK.is("weight", 40000, () -> x.rating(1, 4));
            CHECK.is("base", 40000 * 99, () -> x.rating(1, 0));
            CHECK.is("amounts", 40000 * 990, () -> x.rating(1, 1));
            CHECK.is("fuel", (sum * 99 + 50) / 100, () -> x.rating(1, 3));
            CHECK.is("total", sum + (sum * 99 + 50) / 100, () -> x.rate(1));
        });
        CHECK.test("17 a great percentage, without a wrap-around", () -> {
            FreightRater x = Check.rater("z1:0-9;b1:9999*99;d1000;a0:50%;f99");
            x.ship(0, 0, 0, 0);
            for (int i = 0; i < 5; i++) {
                x.pack(0, 200, 200, 200, 999);
            }
            CHECK.is("50 per cent of 3960000", 1980000, () -> x.rating(1, 1));
            CHECK.is("99 per cent of 5940000", 5880600, () -> x.rating(1, 3));
        });
        CHECK.test("19 the weight of ten full shipments is far above any capacity", () -> {
            FreightRater x = Check.rater("z1:0-9;b1:0*1;c9999;d1000");
            for (int i = 0; i < 10; i++) {
                x.ship(0, 0, 0, 0);
                for (int k = 0; k < 5; k++) {
                    x.pack(i, 200, 200, 200, 999);
                }
            }
            refused(x, 1023, 7, 400000);
            refused(x, 3, 7, 80000);
        });
        CHECK.test("17 the least total", () -> CHECK.is("rate(1)", 1, () -> plain(1).rate(1)));
    }

    private static void meanPrice() {
        CHECK.test("21 the quotient is that of doubles, not a whole number", () -> {
            FreightRater x = Check.rater("z1:0-9;b1:0*1;m1:100");
            Check.load(x, 3, 0, 0);
            CHECK.is("100 by 3", 100.0 / 3.0, () -> x.meanPrice(1));
        });
        CHECK.test("21 the total is divided, fuel and stops included", () -> {
            FreightRater x = Check.rater("z1:0-9;b1:0*1;m1:100;s40;f10;a0:60");
            Check.load(x, 3, 0, 0);
            Check.load(x, 4, 0, 0);
            CHECK.is("220 by 7", 220.0 / 7.0, () -> x.meanPrice(3));
        });
        CHECK.test("21 it is divided by the weight, not by the paid weight", () -> {
            FreightRater x = Check.rater("z1:0-9;b1:100*1");
            Check.load(x, 7, 0, 0);
            CHECK.is("100 by 7", 100.0 / 7.0, () -> x.meanPrice(1));
        });
        CHECK.test("21 the least weight", () -> CHECK.is("1 by 1", 1, () -> plain(1).meanPrice(1)));
    }
}
