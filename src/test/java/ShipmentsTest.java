/** Promises 12 to 16: shipments and their pieces. */
public final class ShipmentsTest {
    private static final Check CHECK = new Check("ShipmentsTest");

    public static void main(String[] args) {
        ship();
        shipOutOfRange();
        pack();
        packExceptions();
        route();
        handle();
        properties();
        posted();
        CHECK.end();
    }

    private static void ship() {
        FreightRater x = new FreightRater();
        for (int i = 0; i < 10; i++) {
            int number = i;
            CHECK.is("12 shipment " + i, i, () -> x.ship(999 * (number % 2), 999 * (number % 2), 255 * (number % 2), number % 4));
        }
        CHECK.fails("12 eleventh", Check.STATE, () -> x.ship(0, 0, 0, 0));
        CHECK.fails("12 argument before eleventh", Check.ARGUMENT, () -> x.ship(0, 0, 0, 4));
        CHECK.is("12 still ten", 10, () -> x.saveSnapshot());
        for (int shipment : new int[] {10, 11, Integer.MAX_VALUE, Integer.MIN_VALUE}) {
            CHECK.fails("16 shipment " + shipment + " of ten", Check.INDEX, () -> x.shipment(shipment, 0));
            CHECK.fails("13 shipment " + shipment + " of ten", Check.INDEX, () -> x.pack(shipment, 1, 1, 1, 1));
            CHECK.fails("14 shipment " + shipment + " of ten", Check.INDEX, () -> x.route(shipment, 1, 1));
            CHECK.fails("15 shipment " + shipment + " of ten", Check.INDEX, () -> x.handle(shipment, 1));
        }
        CHECK.is("16 shipment 9 of ten", 999, () -> x.shipment(9, 0));
    }

    private static void shipOutOfRange() {
        FreightRater x = new FreightRater();
        int[][] wrong = {{-1, 0, 0, 0}, {1000, 0, 0, 0}, {0, -1, 0, 0}, {0, 1000, 0, 0}, {0, 0, -1, 0}, {0, 0, 256, 0},
            {0, 0, 0, -1}, {0, 0, 0, 4}};
        for (int[] a : wrong) {
            CHECK.fails("12 out of range", Check.ARGUMENT, () -> x.ship(a[0], a[1], a[2], a[3]));
        }
        CHECK.fails("12 nothing was made", Check.INDEX, () -> x.shipment(0, 0));
        CHECK.fails("12 nothing to undo", Check.STATE, () -> x.undo());
    }

    private static void pack() {
        FreightRater x = new FreightRater();
        x.ship(0, 0, 0, 0);
        x.ship(0, 0, 0, 0);
        for (int i = 1; i <= 5; i++) {
            CHECK.is("13 piece " + i, i, () -> x.pack(1, 200, 200, 200, 999));
        }
        CHECK.fails("13 sixth piece", Check.STATE, () -> x.pack(1, 1, 1, 1, 1));
        CHECK.fails("13 side before sixth piece", Check.ARGUMENT, () -> x.pack(1, 0, 1, 1, 1));
        CHECK.is("13 the other one", 1, () -> x.pack(0, 1, 2, 3, 4));
        CHECK.is("13 weights", 4995, () -> x.shipment(1, 5));
        CHECK.is("13 products", 40000000, () -> x.shipment(1, 6));
        CHECK.is("13 product", 6, () -> x.shipment(0, 6));
    }

    private static void packExceptions() {
        FreightRater x = new FreightRater();
        x.ship(0, 0, 0, 0);
        int[][] wrong = {{0, 1, 1, 1}, {201, 1, 1, 1}, {1, 0, 1, 1}, {1, 201, 1, 1}, {1, 1, 0, 1}, {1, 1, 201, 1},
            {1, 1, 1, 0}, {1, 1, 1, 1000}, {-1, -1, 1, 1}};
        for (int[] a : wrong) {
            CHECK.fails("13 out of range", Check.ARGUMENT, () -> x.pack(0, a[0], a[1], a[2], a[3]));
            CHECK.fails("13 shipment before range", Check.INDEX, () -> x.pack(1, a[0], a[1], a[2], a[3]));
        }
        CHECK.fails("13 shipment -1", Check.INDEX, () -> x.pack(-1, 1, 1, 1, 1));
        CHECK.is("13 no piece", 0, () -> x.shipment(0, 4));
    }

    private static void route() {
        FreightRater x = new FreightRater();
        x.ship(5, 6, 7, 3);
        CHECK.is("14 previous place", 5, () -> x.route(0, 999, 0));
        CHECK.is("14 previous place", 999, () -> x.route(0, 0, 999));
        CHECK.is("14 place", 0, () -> x.shipment(0, 0));
        CHECK.is("14 day", 999, () -> x.shipment(0, 1));
        CHECK.is("14 handlings stay", 7, () -> x.shipment(0, 2));
        int[][] wrong = {{-1, 0}, {1000, 0}, {0, -1}, {0, 1000}};
        for (int[] a : wrong) {
            CHECK.fails("14 out of range", Check.ARGUMENT, () -> x.route(0, a[0], a[1]));
            CHECK.fails("14 shipment before range", Check.INDEX, () -> x.route(1, a[0], a[1]));
        }
        CHECK.fails("14 shipment -1", Check.INDEX, () -> x.route(-1, 0, 0));
    }

    private static void handle() {
        FreightRater x = new FreightRater();
        x.ship(5, 6, 7, 3);
        CHECK.is("15 previous set", 7, () -> x.handle(0, 255));
        CHECK.is("15 previous set", 255, () -> x.handle(0, 0));
        CHECK.is("15 set", 0, () -> x.shipment(0, 2));
        CHECK.is("15 place stays", 5, () -> x.shipment(0, 0));
        CHECK.fails("15 set 256", Check.ARGUMENT, () -> x.handle(0, 256));
        CHECK.fails("15 set -1", Check.ARGUMENT, () -> x.handle(0, -1));
        CHECK.fails("15 shipment before set", Check.INDEX, () -> x.handle(1, 256));
        CHECK.fails("15 shipment -1", Check.INDEX, () -> x.handle(-1, 0));
    }

    private static void properties() {
        FreightRater x = new FreightRater();
        x.ship(11, 22, 33, 2);
        CHECK.is("16 no longest side", 0, () -> x.shipment(0, 7));
        x.pack(0, 10, 20, 30, 40);
        x.pack(0, 5, 31, 5, 60);
        x.pack(0, 29, 2, 1, 1);
        int[] due = {11, 22, 33, 2, 3, 101, 6000 + 775 + 58, 31, -1};
        for (int what = 0; what < due.length; what++) {
            int asked = what;
            CHECK.is("16 what " + what, due[what], () -> x.shipment(0, asked));
        }
        x.pack(0, 150, 1, 1, 1);
        CHECK.is("16 longest is the first side", 150, () -> x.shipment(0, 7));
        x.pack(0, 1, 1, 200, 1);
        CHECK.is("16 longest is the last side", 200, () -> x.shipment(0, 7));
        CHECK.fails("16 what 9", Check.ARGUMENT, () -> x.shipment(0, 9));
        CHECK.fails("16 what -1", Check.ARGUMENT, () -> x.shipment(0, -1));
        CHECK.fails("16 shipment before what", Check.INDEX, () -> x.shipment(1, 9));
        CHECK.fails("16 shipment -1", Check.INDEX, () -> x.shipment(-1, 0));
    }

    private static void posted() {
        FreightRater x = Check.rater("z1:0-9;b1:0*1");
        Check.load(x, 7, 3, 1);
        x.post(1);
        CHECK.is("16 share", 7, () -> x.shipment(0, 8));
        CHECK.fails("13 posted", Check.STATE, () -> x.pack(0, 1, 1, 1, 1));
        CHECK.fails("13 range before posted", Check.ARGUMENT, () -> x.pack(0, 1, 1, 1, 0));
        CHECK.fails("14 posted", Check.STATE, () -> x.route(0, 1, 1));
        CHECK.fails("14 range before posted", Check.ARGUMENT, () -> x.route(0, 1000, 1));
        CHECK.fails("15 posted", Check.STATE, () -> x.handle(0, 1));
        CHECK.fails("15 range before posted", Check.ARGUMENT, () -> x.handle(0, 256));
        CHECK.is("16 place stays", 0, () -> x.shipment(0, 0));
        CHECK.is("16 handlings stay", 3, () -> x.shipment(0, 2));
        CHECK.is("16 pieces stay", 1, () -> x.shipment(0, 4));
        FreightRater free = Check.rater("z1:0-9;b1:0*1;z2:5-5;b2:0*1");
        free.ship(5, 0, 0, 0);
        free.pack(0, 1, 1, 1, 1);
        Check.amend(free, 0, "b2:0*0;b2:0*1");
        free.post(1);
        CHECK.is("16 share of one cent", 1, () -> free.shipment(0, 8));
    }
}
