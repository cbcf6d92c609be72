/** A test for each boundary case of postings, accounts and rebates: promises 26 to 29. */
public final class AccountBoundsTest {
    private static final Check CHECK = new Check("AccountBoundsTest");

    public static void main(String[] args) {
        sets();
        orderOfExceptions();
        refusedPosting();
        shares();
        centsLeft();
        ownWeights();
        booked();
        customers();
        steps();
        stepLimits();
        rebates();
        roundedRebates();
        greatAccounts();
        CHECK.end();
    }

    private static FreightRater plain(int shipments) {
        FreightRater x = Check.rater("z1:0-9;b1:0*1");
        for (int i = 0; i < shipments; i++) {
            Check.load(x, i + 1, 0, i % 4);
        }
        return x;
    }

    private static FreightRater weighing(String text, int... weights) {
        FreightRater x = Check.rater("z1:0-9;b1:0*1", text);
        for (int i = 0; i < weights.length; i++) {
            Check.load(x, weights[i], 0, i % 4);
        }
        return x;
    }

    private static void sets() {
        CHECK.test("26 the set is empty", () -> {
            CHECK.fails("post(0)", Check.INDEX, () -> plain(0).post(0));
            CHECK.fails("post(0)", Check.INDEX, () -> plain(10).post(0));
        });
        CHECK.test("26 the set has a shipment that does not exist", () -> {
            CHECK.fails("post(1)", Check.INDEX, () -> plain(0).post(1));
            FreightRater x = plain(2);
            for (int set : new int[] {4, 7, 512, -1, Integer.MIN_VALUE, Integer.MIN_VALUE + 1, Integer.MAX_VALUE}) {
                CHECK.fails("post(" + set + ")", Check.INDEX, () -> x.post(set));
            }
            CHECK.fails("post(1024)", Check.INDEX, () -> plain(10).post(1024));
            CHECK.fails("post(1025)", Check.INDEX, () -> plain(10).post(1025));
        });
        CHECK.test("26 one shipment, the first and the last", () -> {
            FreightRater x = plain(10);
            CHECK.is("post(1)", 1, () -> x.post(1));
            CHECK.is("post(512)", 10, () -> x.post(512));
            CHECK.is("account(6)", 513, () -> x.account(6));
        });
        CHECK.test("26 eight shipments are allowed, nine or ten are not", () -> {
            FreightRater x = plain(10);
            CHECK.fails("post(511)", Check.ARGUMENT, () -> x.post(511));
            CHECK.fails("post(1023)", Check.ARGUMENT, () -> x.post(1023));
            CHECK.is("post(255)", 36, () -> x.post(255));
            CHECK.is("the other two", 19, () -> x.post(768));
            CHECK.is("account(6)", 1023, () -> x.account(6));
        });
        CHECK.test("26 one of its shipments is posted already", () -> {
            FreightRater x = plain(4);
            x.post(6);
            for (int set : new int[] {2, 4, 6, 3, 12, 15}) {
                CHECK.fails("post(" + set + ")", Check.UNSUPPORTED, () -> x.post(set));
            }
            CHECK.is("account(6)", 6, () -> x.account(6));
            CHECK.is("post(9)", 5, () -> x.post(9));
        });
    }

    /** Shipment 0 is posted, shipment 1 is refused, there are nine. */
    private static FreightRater postedAndRefused() {
        FreightRater x = plain(1);
        x.post(1);
        x.ship(0, 0, 0, 0);
        for (int i = 2; i < 9; i++) {
            Check.load(x, 1, 0, 0);
        }
        return x;
    }

    private static void orderOfExceptions() {
        CHECK.test("26 exceptions: a shipment that does not exist comes first", () -> {
            FreightRater x = postedAndRefused();
            CHECK.fails("and more than 8", Check.INDEX, () -> x.post(1023));
            CHECK.fails("and one that is posted", Check.INDEX, () -> x.post(513));
            CHECK.fails("and one that is refused", Check.INDEX, () -> x.post(514));
        });
        CHECK.test("26 exceptions: more than 8 shipments come second", () ->
                CHECK.fails("and one that is posted, and one that is refused", Check.ARGUMENT, () -> postedAndRefused().post(511)));
        CHECK.test("26 exceptions: one that is posted comes third, before one that is refused, of which nothing is kept", () -> {
            FreightRater x = postedAndRefused();
            CHECK.fails("post(3)", Check.UNSUPPORTED, () -> x.post(3));
            CHECK.fails("refusal(false)", Check.MISSING, () -> x.refusal(false));
            CHECK.fails("post(2)", Check.STATE, () -> x.post(2));
            CHECK.is("refusal(false)", 1, () -> x.refusal(false));
        });
    }

    private static void refusedPosting() {
        CHECK.test("26 one of its shipments is refused: the reason of the lowest one is kept, nothing is posted", () -> {
            FreightRater x = plain(1);
            x.pack(x.ship(10, 0, 0, 0), 1, 1, 1, 1);
            x.ship(0, 0, 0, 0);
            CHECK.fails("post(7)", Check.STATE, () -> x.post(7));
            CHECK.is("the reason", 4, () -> x.refusal(false));
            CHECK.is("the detail", 1, () -> x.refusal(true));
            CHECK.is("account(4)", 0, () -> x.account(4));
            CHECK.is("account(5)", 0, () -> x.account(5));
            CHECK.is("account(6)", 0, () -> x.account(6));
            CHECK.is("share", -1, () -> x.shipment(0, 8));
        });
        CHECK.test("26 a group of several that is refused does not refuse the posting", () -> {
            FreightRater x = weighing("c0", 5, 6);
            CHECK.is("post(3)", 11, () -> x.post(3));
            CHECK.is("account(5)", 2, () -> x.account(5));
        });
    }

    private static void posted(FreightRater x, int set, int total, int... shares) {
        CHECK.is("post(" + set + ")", total, () -> x.post(set));
        for (int i = 0; i < shares.length; i++) {
            int asked = i;
            CHECK.is("the share of shipment " + i, shares[i], () -> x.shipment(asked, 8));
        }
    }

    private static void shares() {
        CHECK.test("26 a group of one shipment: it has the total as its share", () -> posted(weighing("m1:101", 3, 3), 1, 101, 101, -1));
        CHECK.test("26 the shares are in proportion to the weights", () -> posted(weighing("m1:60", 1, 2, 3), 7, 60, 10, 20, 30));
        CHECK.test("26 all that a group costs is divided, stops and fuel included", () ->
                posted(weighing("m1:60;s20;f10", 1, 4), 3, 88, 18, 70));
        CHECK.test("26 the greatest shares, without a wrap-around", () -> {
            FreightRater x = Check.rater("z1:0-9;b1:0*99;f99;c9999;a0:99*;a1:99*;a2:99*;a3:99*;a4:99*", "a5:99*;a6:99*;a7:99*;a8:99*;a9:9999");
            for (int i = 0; i < 2; i++) {
                x.ship(0, 0, 0, 0);
                for (int k = 0; k < 5; k++) {
                    x.pack(i, 1, 1, 1, 999);
                }
            }
            posted(x, 3, 19701197, 9850599, 9850598);
        });
    }

    private static void centsLeft() {
        CHECK.test("26 no cent is left", () -> posted(weighing("m1:90", 1, 1, 1), 7, 90, 30, 30, 30));
        CHECK.test("26 one cent is left: the lowest shipment has it", () -> posted(weighing("m1:91", 1, 1, 1), 7, 91, 31, 30, 30));
        CHECK.test("26 as many cents are left as there are shipments less one", () -> posted(weighing("m1:92", 1, 1, 1), 7, 92, 31, 31, 30));
        CHECK.test("26 the cents that are left go to the shipments of the group in ascending order, not to the greatest remainders", () ->
                posted(weighing("m1:101", 1, 1, 8), 7, 101, 11, 10, 80));
        CHECK.test("26 seven cents are left for eight shipments", () ->
                posted(weighing("m1:103", 1, 1, 1, 1, 1, 1, 1, 1), 255, 103, 13, 13, 13, 13, 13, 13, 13, 12));
        CHECK.test("26 the cents of a group with gaps go to its own shipments", () -> {
            FreightRater x = weighing("m1:101;c2", 2, 1, 2, 1);
            posted(x, 15, 303, 101, 51, 101, 50);
        });
        CHECK.test("26 the cents of each group are given by themselves", () -> {
            FreightRater x = weighing("m1:101;c2", 1, 1, 1, 1);
            posted(x, 15, 202, 51, 50, 51, 50);
        });
    }

    private static void ownWeights() {
        CHECK.test("26 the weights that shipments have as groups of their own: real here, dimensional there", () -> {
            FreightRater x = Check.rater("z1:0-9;b1:0*10");
            x.pack(x.ship(0, 0, 0, 0), 100, 50, 50, 10);
            Check.load(x, 60, 0, 1);
            // 50 and 60 alone, together 70, which costs 700.
            posted(x, 3, 700, 319, 381);
        });
        CHECK.test("26 each piece is rounded up for them, too", () -> {
            FreightRater x = Check.rater("z1:0-9;b1:0*1;m1:100;d1000");
            x.ship(0, 0, 0, 0);
            x.pack(0, 10, 10, 11, 1);
            x.pack(0, 10, 10, 11, 1);
            Check.load(x, 4, 0, 1);
            posted(x, 3, 100, 50, 50);
        });
    }

    private static void booked() {
        CHECK.test("27 account 5: the groups that were booked, of one posting and of several", () -> {
            FreightRater x = weighing("c3", 1, 1, 1, 1, 1);
            x.post(15);
            CHECK.is("two groups", 2, () -> x.account(5));
            x.post(16);
            CHECK.is("and one", 3, () -> x.account(5));
        });
        CHECK.test("27 account 5: one group of eight, eight groups of one", () -> {
            FreightRater one = plain(8);
            one.post(255);
            CHECK.is("one", 1, () -> one.account(5));
            FreightRater eight = weighing("c0", 1, 1, 1, 1, 1, 1, 1, 1);
            eight.post(255);
            CHECK.is("eight", 8, () -> eight.account(5));
        });
        CHECK.test("27 account 6: the posted shipments: none, the first one, the last one, all", () -> {
            FreightRater x = plain(10);
            CHECK.is("none", 0, () -> x.account(6));
            x.post(1);
            CHECK.is("the first one", 1, () -> x.account(6));
            x.post(512);
            CHECK.is("the last one, too", 513, () -> x.account(6));
            x.post(510);
            CHECK.is("all", 1023, () -> x.account(6));
        });
        CHECK.test("26 the best consolidation is booked, not the plain merging", () -> {
            FreightRater x = weighing("m1:50;c60", 30, 30, 29, 31);
            posted(x, 15, 120, 30, 30, 29, 31);
            CHECK.is("groups", 2, () -> x.account(5));
        });
        CHECK.test("26 posted shipments can be rated and consolidated like others, also with open ones", () -> {
            FreightRater x = weighing("m1:50", 1, 2, 3);
            x.post(5);
            CHECK.is("rate(5)", 50, () -> x.rate(5));
            CHECK.is("consolidate(7)", 50, () -> x.consolidate(7));
            CHECK.is("group(7, 0)", 7, () -> x.group(7, 0));
            CHECK.is("searched(7)", 50, () -> x.searched(7));
            CHECK.is("merged(7, 2)", 7, () -> x.merged(7, 2));
            CHECK.is("post(2)", 50, () -> x.post(2));
        });
        CHECK.test("26 what is booked stays when the tariff changes", () -> {
            FreightRater x = weighing("m1:50", 1, 1);
            x.post(3);
            Check.amend(x, 0, "m1:9999;b1:0*99");
            CHECK.is("share", 25, () -> x.shipment(0, 8));
            CHECK.is("account(4)", 50, () -> x.account(4));
        });
    }

    private static void customers() {
        FreightRater x = weighing("c0", 1, 2, 4, 8, 16, 32);
        x.post(63);
        CHECK.test("27 customers 0 and 3, the first and the last", () -> {
            CHECK.is("account(0)", 17, () -> x.account(0));
            CHECK.is("account(1)", 34, () -> x.account(1));
            CHECK.is("account(2)", 4, () -> x.account(2));
            CHECK.is("account(3)", 8, () -> x.account(3));
        });
        CHECK.test("27 account 4: the sum of all", () -> CHECK.is("account(4)", 63, () -> x.account(4)));
        CHECK.test("27 customer: from 0 to 6", () -> {
            CHECK.is("account(6)", 63, () -> x.account(6));
            for (int customer : Check.outside(0, 6)) {
                CHECK.fails("account(" + customer + ")", Check.ARGUMENT, () -> x.account(customer));
            }
        });
        CHECK.test("27 shipments that are not posted count nothing", () -> {
            FreightRater y = weighing("c0", 1, 2, 4, 8, 16);
            y.post(16);
            CHECK.is("account(0)", 16, () -> y.account(0));
            CHECK.is("account(1)", 0, () -> y.account(1));
            CHECK.is("account(4)", 16, () -> y.account(4));
        });
    }

    private static void steps() {
        CHECK.test("28 a fifth step is allowed, a sixth is not", () -> {
            FreightRater x = new FreightRater();
            for (int i = 1; i <= 5; i++) {
                int step = i;
                CHECK.is("step " + i, i, () -> x.setRebate(10 * step, step));
            }
            CHECK.fails("a sixth", Check.STATE, () -> x.setRebate(60, 6));
            CHECK.fails("a sixth, below all others", Check.STATE, () -> x.setRebate(0, 6));
        });
        CHECK.test("28 with five steps each of them can be set anew", () -> {
            FreightRater x = fiveSteps();
            for (int i = 1; i <= 5; i++) {
                int step = i;
                CHECK.is("step " + i, 5, () -> x.setRebate(10 * step, 50));
            }
        });
        CHECK.test("28 with five steps each of them can be removed, and another one set", () -> {
            for (int i = 1; i <= 5; i++) {
                int step = i;
                FreightRater x = fiveSteps();
                CHECK.is("step " + i + " is removed", 4, () -> x.setRebate(10 * step, 0));
                CHECK.fails("and is not there any more", Check.MISSING, () -> x.setRebate(10 * step, 0));
                CHECK.is("another one", 5, () -> x.setRebate(60, 1));
                CHECK.fails("and no more", Check.STATE, () -> x.setRebate(10 * step, 1));
            }
        });
        CHECK.test("28 the last step is removed", () -> {
            FreightRater x = new FreightRater();
            x.setRebate(7, 7);
            CHECK.is("none left", 0, () -> x.setRebate(7, 0));
            CHECK.fails("and once more", Check.MISSING, () -> x.setRebate(7, 0));
        });
        CHECK.test("28 a step is set in place of one with the same threshold, not of one next to it", () -> {
            FreightRater x = new FreightRater();
            x.setRebate(7, 7);
            CHECK.is("the same", 1, () -> x.setRebate(7, 8));
            CHECK.is("one less", 2, () -> x.setRebate(6, 8));
            CHECK.is("one more", 3, () -> x.setRebate(8, 8));
        });
    }

    private static FreightRater fiveSteps() {
        FreightRater x = new FreightRater();
        for (int i = 1; i <= 5; i++) {
            x.setRebate(10 * i, i);
        }
        return x;
    }

    private static void stepLimits() {
        CHECK.test("28 threshold: 0 and the greatest number are allowed", () -> {
            FreightRater x = new FreightRater();
            CHECK.is("0", 1, () -> x.setRebate(0, 1));
            CHECK.is("the greatest number", 2, () -> x.setRebate(Integer.MAX_VALUE, 1));
        });
        CHECK.test("28 threshold: it is negative", () -> {
            FreightRater x = new FreightRater();
            CHECK.fails("-1", Check.ARGUMENT, () -> x.setRebate(-1, 1));
            CHECK.fails("the least number", Check.ARGUMENT, () -> x.setRebate(Integer.MIN_VALUE, 1));
        });
        CHECK.test("28 percentage: 1 and 50 are allowed", () -> {
            FreightRater x = new FreightRater();
            CHECK.is("1", 1, () -> x.setRebate(5, 1));
            CHECK.is("50", 1, () -> x.setRebate(5, 50));
        });
        CHECK.test("28 percentage: it is not from 0 to 50", () -> {
            FreightRater x = new FreightRater();
            x.setRebate(5, 5);
            for (int percentage : Check.outside(0, 50)) {
                CHECK.fails("percentage " + percentage, Check.ARGUMENT, () -> x.setRebate(5, percentage));
                CHECK.fails("percentage " + percentage + " of a new step", Check.ARGUMENT, () -> x.setRebate(6, percentage));
            }
        });
        CHECK.test("28 percentage 0: there is no such step", () -> {
            FreightRater x = new FreightRater();
            CHECK.fails("without steps", Check.MISSING, () -> x.setRebate(0, 0));
            x.setRebate(5, 5);
            CHECK.fails("one less", Check.MISSING, () -> x.setRebate(4, 0));
            CHECK.fails("one more", Check.MISSING, () -> x.setRebate(6, 0));
        });
        CHECK.test("28 exceptions: the arguments come first, then that there is no such step", () ->
                CHECK.fails("setRebate(-1, 0)", Check.ARGUMENT, () -> new FreightRater().setRebate(-1, 0)));
        CHECK.test("28 exceptions: the arguments come first, then that there are 5 steps", () -> {
            CHECK.fails("threshold", Check.ARGUMENT, () -> fiveSteps().setRebate(-1, 5));
            CHECK.fails("percentage", Check.ARGUMENT, () -> fiveSteps().setRebate(60, 51));
        });
        CHECK.test("28 exceptions: that there is no such step comes first, then that there are 5 steps", () ->
                CHECK.fails("setRebate(60, 0)", Check.MISSING, () -> fiveSteps().setRebate(60, 0)));
    }

    private static void rebates() {
        CHECK.test("29 customer: 0 and 3 are allowed", () -> {
            FreightRater x = weighing("c0", 100, 200, 300, 400);
            x.post(15);
            x.setRebate(0, 10);
            for (int i = 0; i < 4; i++) {
                int customer = i;
                CHECK.is("rebate(" + i + ")", 10 * (i + 1), () -> x.rebate(customer));
            }
        });
        CHECK.test("29 customer: there is no such one", () -> {
            for (int customer : Check.outside(0, 3)) {
                CHECK.fails("rebate(" + customer + ")", Check.ARGUMENT, () -> plain(1).rebate(customer));
            }
        });
        CHECK.test("29 without steps, or with all thresholds above the account, there is no rebate", () -> {
            FreightRater x = weighing("c0", 100);
            x.post(1);
            CHECK.is("without steps", 0, () -> x.rebate(0));
            x.setRebate(101, 50);
            CHECK.is("one cent above", 0, () -> x.rebate(0));
            x.setRebate(100, 50);
            CHECK.is("just the account", 50, () -> x.rebate(0));
        });
        CHECK.test("29 the greatest threshold that is not above the account: one less, just that, one more", () -> {
            FreightRater x = weighing("c0", 99, 100, 101);
            x.post(7);
            x.setRebate(100, 50);
            x.setRebate(0, 10);
            CHECK.is("99", 10, () -> x.rebate(0));
            CHECK.is("100", 50, () -> x.rebate(1));
            CHECK.is("101", 51, () -> x.rebate(2));
        });
        CHECK.test("29 the step that counts may be set first, between, last", () -> {
            int[][] orders = {{3, 2, 1}, {2, 3, 1}, {1, 2, 3}};
            for (int[] order : orders) {
                FreightRater x = weighing("c0", 100);
                x.post(1);
                for (int step : order) {
                    x.setRebate(30 * step, step);
                }
                x.setRebate(101, 50);
                CHECK.is("3 per cent", 3, () -> x.rebate(0));
            }
        });
        CHECK.test("29 a removed step counts no more, the other ones do", () -> {
            for (int removed = 1; removed <= 3; removed++) {
                FreightRater x = weighing("c0", 100);
                x.post(1);
                for (int step = 1; step <= 3; step++) {
                    x.setRebate(30 * step, step);
                }
                x.setRebate(30 * removed, 0);
                CHECK.is("without step " + removed, removed == 3 ? 2 : 3, () -> x.rebate(0));
            }
        });
        CHECK.test("29 the threshold 0 counts for an empty account, of which the rebate is 0", () -> {
            FreightRater x = new FreightRater();
            x.setRebate(0, 50);
            CHECK.is("rebate(0)", 0, () -> x.rebate(0));
        });
        CHECK.test("29 the least and the greatest percentage", () -> {
            FreightRater x = weighing("c0", 200);
            x.post(1);
            x.setRebate(0, 1);
            CHECK.is("1 per cent", 2, () -> x.rebate(0));
            x.setRebate(0, 50);
            CHECK.is("50 per cent", 100, () -> x.rebate(0));
        });
    }

    private static void roundedRebates() {
        CHECK.test("29 a rebate is rounded to the nearest cent, and up if two are equally near", () -> {
            int[] accounts = {1, 49, 50, 51, 149, 150, 151, 249, 250};
            int[] due = {0, 0, 1, 1, 1, 2, 2, 2, 3};
            for (int i = 0; i < accounts.length; i++) {
                FreightRater x = weighing("c0", accounts[i]);
                x.post(1);
                x.setRebate(0, 1);
                CHECK.is("1 per cent of " + accounts[i], due[i], () -> x.rebate(0));
            }
        });
        CHECK.test("29 the account is rounded once, not each share", () -> {
            FreightRater x = Check.rater("z1:0-9;b1:0*1;c0");
            Check.load(x, 25, 0, 0);
            Check.load(x, 25, 0, 0);
            x.post(3);
            x.setRebate(0, 1);
            CHECK.is("1 per cent of 50", 1, () -> x.rebate(0));
        });
    }

    private static void greatAccounts() {
        CHECK.test("27, 29 the greatest account and its rebate, without a wrap-around", () -> {
            FreightRater x = Check.rater("z1:0-9;b1:0*99;d1000;f99;c0;a0:99*;a1:99*;a2:99*;a3:99*;a4:99*",
                    "a5:99*;a6:99*;a7:99*;a8:99*;a9:99*");
            for (int i = 0; i < 10; i++) {
                x.ship(0, 0, 0, 3);
                for (int k = 0; k < 5; k++) {
                    x.pack(i, 200, 200, 200, 999);
                }
            }
            long one = 40000L * 99 * 11;
            long total = one + (one * 99 + 50) / 100;
            CHECK.is("post(255)", 8 * total, () -> x.post(255));
            CHECK.is("post(768)", 2 * total, () -> x.post(768));
            CHECK.is("account(3)", 10 * total, () -> x.account(3));
            CHECK.is("account(4)", 10 * total, () -> x.account(4));
            x.setRebate((int) (10 * total), 50);
            CHECK.is("rebate(3)", 5 * total, () -> x.rebate(3));
            x.setRebate((int) (10 * total), 0);
            x.setRebate((int) (10 * total) + 1, 50);
            CHECK.is("a threshold one above it", 0, () -> x.rebate(3));
        });
    }
}
