/** Promises 26 to 29: posting, accounts and rebates. */
public final class AccountsTest {
    private static final Check CHECK = new Check("AccountsTest");

    public static void main(String[] args) {
        postExceptions();
        shares();
        sharesByOwnWeights();
        centsLeft();
        severalGroups();
        accounts();
        setRebate();
        setRebateExceptions();
        rebate();
        rebateIsRounded();
        greatRebate();
        CHECK.end();
    }

    private static void postExceptions() {
        FreightRater x = Check.rater("z1:0-9;b1:0*1");
        CHECK.fails("26 no shipments", Check.INDEX, () -> x.post(1));
        for (int i = 0; i < 9; i++) {
            Check.load(x, 1, 0, 0);
        }
        x.ship(0, 0, 0, 0);
        CHECK.is("26 posted", 1, () -> x.post(1));
        CHECK.fails("26 empty set", Check.INDEX, () -> x.post(0));
        CHECK.fails("26 no such shipment", Check.INDEX, () -> x.post(1025));
        CHECK.fails("26 negative set", Check.INDEX, () -> x.post(-1));
        CHECK.fails("26 nine before posted", Check.ARGUMENT, () -> x.post(511));
        CHECK.fails("26 posted already", Check.UNSUPPORTED, () -> x.post(3));
        CHECK.fails("26 posted before refused", Check.UNSUPPORTED, () -> x.post(513));
        CHECK.fails("20 nothing kept for posted", Check.MISSING, () -> x.refusal(false));
        CHECK.fails("26 refused", Check.STATE, () -> x.post(514));
        CHECK.is("20 reason", 1, () -> x.refusal(false));
        CHECK.is("20 detail", 9, () -> x.refusal(true));
        CHECK.is("26 none of them was posted", 1, () -> x.account(6));
        CHECK.is("26 account as before", 1, () -> x.account(4));
        CHECK.is("26 booked as before", 1, () -> x.account(5));
        CHECK.is("26 eight at once", 8, () -> x.post(510));
        CHECK.is("27 all posted", 511, () -> x.account(6));
        CHECK.is("27 groups", 2, () -> x.account(5));
    }

    private static void shares() {
        FreightRater x = Check.rater("z1:0-9;b1:0*10;s50");
        Check.load(x, 10, 0, 2);
        Check.load(x, 20, 0, 3);
        CHECK.is("16 no share", -1, () -> x.shipment(0, 8));
        Check.amend(x, 0, "m1:250");
        CHECK.is("26 total", 350, () -> x.post(3));
        // 350 in the proportion of 10 to 20: 116, 233, and a cent left for the first one.
        CHECK.is("16 share", 117, () -> x.shipment(0, 8));
        CHECK.is("16 share", 233, () -> x.shipment(1, 8));
        Check.amend(x, 0, "m1:9999");
        CHECK.is("16 share stays", 117, () -> x.shipment(0, 8));
    }

    private static void sharesByOwnWeights() {
        FreightRater x = Check.rater("z1:0-9;b1:0*10");
        x.ship(0, 0, 0, 0);
        x.pack(0, 100, 50, 50, 10);
        Check.load(x, 60, 0, 1);
        // As groups of their own they weigh 50 and 60; together 70 and 51, which is 700.
        CHECK.is("18 weight", 70, () -> x.rating(3, 4));
        CHECK.is("26 total", 700, () -> x.post(3));
        CHECK.is("16 share", 319, () -> x.shipment(0, 8));
        CHECK.is("16 share", 381, () -> x.shipment(1, 8));
    }

    private static void centsLeft() {
        FreightRater x = Check.rater("z1:0-9;b1:0*1;m1:101");
        for (int i = 0; i < 3; i++) {
            Check.load(x, 1, 0, i);
        }
        CHECK.is("26 total", 101, () -> x.post(7));
        CHECK.is("16 first cent", 34, () -> x.shipment(0, 8));
        CHECK.is("16 second cent", 34, () -> x.shipment(1, 8));
        CHECK.is("16 no cent", 33, () -> x.shipment(2, 8));
        x.undo();
        Check.amend(x, 0, "m1:100");
        x.post(6);
        CHECK.is("16 open", -1, () -> x.shipment(0, 8));
        CHECK.is("16 even", 50, () -> x.shipment(1, 8));
        CHECK.is("16 even", 50, () -> x.shipment(2, 8));
    }

    private static void severalGroups() {
        FreightRater x = Check.rater("z1:0-9;b1:0*1;m1:50;c20");
        int[] weights = {12, 11, 8, 9};
        for (int weight : weights) {
            Check.load(x, weight, 0, 0);
        }
        // 0 with 2 and 1 with 3, 50 each.
        CHECK.is("26 total", 100, () -> x.post(15));
        int[] due = {30, 28, 20, 22};
        for (int i = 0; i < due.length; i++) {
            int asked = i;
            CHECK.is("16 share " + i, due[i], () -> x.shipment(asked, 8));
        }
        CHECK.is("27 groups", 2, () -> x.account(5));
        CHECK.is("27 sum", 100, () -> x.account(0));
    }

    private static void accounts() {
        FreightRater x = Check.rater("z1:0-9;b1:0*1;c0");
        int[] customers = {0, 1, 1, 3, 0, 3};
        for (int i = 0; i < customers.length; i++) {
            Check.load(x, 1 << i, 0, customers[i]);
        }
        x.post(1 | 2 | 4 | 8);
        int[] due = {1, 6, 0, 8, 15, 4, 15};
        for (int i = 0; i < due.length; i++) {
            int asked = i;
            CHECK.is("27 account " + i, due[i], () -> x.account(asked));
        }
        x.post(48);
        int[] all = {17, 6, 0, 40, 63, 6, 63};
        for (int i = 0; i < all.length; i++) {
            int asked = i;
            CHECK.is("27 account " + i, all[i], () -> x.account(asked));
        }
        CHECK.fails("27 customer -1", Check.ARGUMENT, () -> x.account(-1));
        CHECK.fails("27 customer 7", Check.ARGUMENT, () -> x.account(7));
    }

    private static void setRebate() {
        FreightRater x = new FreightRater();
        CHECK.is("28 first step", 1, () -> x.setRebate(0, 1));
        CHECK.is("28 second step", 2, () -> x.setRebate(Integer.MAX_VALUE, 50));
        CHECK.is("28 same threshold", 2, () -> x.setRebate(0, 2));
        CHECK.is("28 third step", 3, () -> x.setRebate(10, 3));
        CHECK.is("28 fourth step", 4, () -> x.setRebate(5, 4));
        CHECK.is("28 fifth step", 5, () -> x.setRebate(7, 5));
        CHECK.fails("28 sixth step", Check.STATE, () -> x.setRebate(8, 5));
        CHECK.is("28 five, one set anew", 5, () -> x.setRebate(7, 6));
        CHECK.is("28 five, the first one set anew", 5, () -> x.setRebate(0, 7));
        CHECK.fails("28 no such step before sixth", Check.MISSING, () -> x.setRebate(8, 0));
        CHECK.is("28 removed", 4, () -> x.setRebate(10, 0));
        CHECK.fails("28 removed already", Check.MISSING, () -> x.setRebate(10, 0));
        CHECK.is("28 another one", 5, () -> x.setRebate(8, 5));
    }

    private static void setRebateExceptions() {
        FreightRater x = new FreightRater();
        CHECK.fails("28 threshold", Check.ARGUMENT, () -> x.setRebate(-1, 1));
        CHECK.fails("28 threshold before no such step", Check.ARGUMENT, () -> x.setRebate(-1, 0));
        CHECK.fails("28 percentage 51", Check.ARGUMENT, () -> x.setRebate(0, 51));
        CHECK.fails("28 percentage -1", Check.ARGUMENT, () -> x.setRebate(0, -1));
        CHECK.fails("28 no such step", Check.MISSING, () -> x.setRebate(0, 0));
        for (int i = 0; i < 5; i++) {
            x.setRebate(i, 1);
        }
        CHECK.fails("28 percentage before sixth step", Check.ARGUMENT, () -> x.setRebate(9, 51));
    }

    private static void rebate() {
        FreightRater x = Check.rater("z1:0-9;b1:0*1");
        Check.load(x, 999, 0, 1);
        x.pack(0, 1, 1, 1, 1);
        x.post(1);
        CHECK.is("29 without steps", 0, () -> x.rebate(1));
        x.setRebate(1001, 50);
        CHECK.is("29 below the only step", 0, () -> x.rebate(1));
        x.setRebate(500, 5);
        CHECK.is("29 lesser step", 50, () -> x.rebate(1));
        x.setRebate(1000, 10);
        CHECK.is("29 just the threshold", 100, () -> x.rebate(1));
        x.setRebate(0, 1);
        x.setRebate(700, 20);
        CHECK.is("29 the greatest one, not the last one", 100, () -> x.rebate(1));
        x.setRebate(1000, 11);
        CHECK.is("29 in place of the same threshold", 110, () -> x.rebate(1));
        x.setRebate(1000, 0);
        CHECK.is("29 without this step", 200, () -> x.rebate(1));
        x.setRebate(500, 0);
        x.setRebate(700, 0);
        CHECK.is("29 the step from 0", 10, () -> x.rebate(1));
        CHECK.is("29 an empty account", 0, () -> x.rebate(0));
        CHECK.fails("29 customer 4", Check.ARGUMENT, () -> x.rebate(4));
        CHECK.fails("29 customer -1", Check.ARGUMENT, () -> x.rebate(-1));
    }

    private static void rebateIsRounded() {
        FreightRater x = Check.rater("z1:0-9;b1:0*1;c0");
        int[] weights = {149, 150, 151, 49};
        int[] due = {1, 2, 2, 0};
        for (int i = 0; i < weights.length; i++) {
            Check.load(x, weights[i], 0, i);
        }
        x.post(15);
        x.setRebate(0, 1);
        for (int i = 0; i < due.length; i++) {
            int asked = i;
            CHECK.is("29 one per cent of " + weights[i], due[i], () -> x.rebate(asked));
        }
    }

    private static void greatRebate() {
        FreightRater x = Check.rater("z1:0-9;b1:0*99;d1000;f99;c0;a0:99*;a1:99*;a2:99*;a3:99*;a4:99*",
                "a5:99*;a6:99*;a7:99*;a8:99*;a9:99*");
        long one = 40000L * 99 * 11;
        long total = one + (one * 99 + 50) / 100;
        for (int i = 0; i < 10; i++) {
            x.ship(0, 0, 0, 2);
            for (int k = 0; k < 5; k++) {
                x.pack(i, 200, 200, 200, 999);
            }
        }
        CHECK.is("26 eight great ones", total * 8, () -> x.post(255));
        CHECK.is("26 two great ones", total * 2, () -> x.post(768));
        CHECK.is("27 great account", total * 10, () -> x.account(2));
        CHECK.is("27 great sum", total * 10, () -> x.account(4));
        x.setRebate(1, 50);
        CHECK.is("29 great rebate", (total * 10 * 50 + 50) / 100, () -> x.rebate(2));
    }
}
