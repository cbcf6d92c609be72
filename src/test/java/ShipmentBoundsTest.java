/** A test for each boundary case of shipments and their pieces: promises 12 to 16. */
public final class ShipmentBoundsTest {
    private static final Check CHECK = new Check("ShipmentBoundsTest");

    public static void main(String[] args) {
        ship();
        shipOutOfRange();
        mostShipments();
        packLimits();
        packOutOfRange();
        mostPieces();
        route();
        handle();
        noSuchShipment();
        postedShipment();
        properties();
        sums();
        shares();
        CHECK.end();
    }

    /** A new shipment has these properties. */
    private static void shipped(int place, int day, int handlings, int customer) {
        FreightRater x = new FreightRater();
        CHECK.is("ship", 0, () -> x.ship(place, day, handlings, customer));
        int[] due = {place, day, handlings, customer, 0, 0, 0, 0, -1};
        for (int what = 0; what < due.length; what++) {
            int asked = what;
            CHECK.is("shipment(0, " + what + ")", due[what], () -> x.shipment(0, asked));
        }
    }

    private static void ship() {
        CHECK.test("12 place: 0 and 999 are allowed", () -> {
            shipped(0, 5, 6, 1);
            shipped(999, 5, 6, 1);
        });
        CHECK.test("12 day: 0 and 999 are allowed", () -> {
            shipped(5, 0, 6, 1);
            shipped(5, 999, 6, 1);
        });
        CHECK.test("12 handlings: 0 and 255 are allowed", () -> {
            shipped(5, 6, 0, 1);
            shipped(5, 6, 255, 1);
        });
        CHECK.test("12 customer: 0 and 3 are allowed", () -> {
            shipped(5, 6, 7, 0);
            shipped(5, 6, 7, 3);
        });
        CHECK.test("12 a shipment needs no version, and no zone of its place", () -> shipped(999, 999, 255, 3));
    }

    private static void shipOutOfRange() {
        FreightRater x = new FreightRater();
        CHECK.test("12 place: out of range", () -> {
            for (int place : Check.outside(0, 999)) {
                CHECK.fails("place " + place, Check.ARGUMENT, () -> x.ship(place, 0, 0, 0));
            }
        });
        CHECK.test("12 day: out of range", () -> {
            for (int day : Check.outside(0, 999)) {
                CHECK.fails("day " + day, Check.ARGUMENT, () -> x.ship(0, day, 0, 0));
            }
        });
        CHECK.test("12 handlings: out of range", () -> {
            for (int handlings : Check.outside(0, 255)) {
                CHECK.fails("handlings " + handlings, Check.ARGUMENT, () -> x.ship(0, 0, handlings, 0));
            }
        });
        CHECK.test("12 customer: out of range", () -> {
            for (int customer : Check.outside(0, 3)) {
                CHECK.fails("customer " + customer, Check.ARGUMENT, () -> x.ship(0, 0, 0, customer));
            }
        });
        CHECK.test("12 refused calls have made no shipment", () -> {
            CHECK.is("saveSnapshot()", 0, () -> x.saveSnapshot());
            CHECK.is("the first shipment", 0, () -> x.ship(0, 0, 0, 0));
        });
    }

    private static FreightRater tenShipments() {
        FreightRater x = new FreightRater();
        for (int i = 0; i < 10; i++) {
            x.ship(100 + i, 200 + i, i, i % 4);
        }
        return x;
    }

    private static void mostShipments() {
        CHECK.test("12 there are at most 10 shipments, numbered from 0", () -> {
            FreightRater x = new FreightRater();
            for (int i = 0; i < 10; i++) {
                int number = i;
                CHECK.is("shipment " + i, i, () -> x.ship(100 + number, 0, 0, 0));
            }
            CHECK.fails("an eleventh", Check.STATE, () -> x.ship(0, 0, 0, 0));
            for (int i = 0; i < 10; i++) {
                int number = i;
                CHECK.is("the place of shipment " + i, 100 + i, () -> x.shipment(number, 0));
            }
            CHECK.fails("shipment(10, 0)", Check.INDEX, () -> x.shipment(10, 0));
        });
        CHECK.test("12 an undone shipment leaves place for another one", () -> {
            FreightRater x = tenShipments();
            x.undo();
            CHECK.is("a tenth", 9, () -> x.ship(0, 0, 0, 0));
            CHECK.fails("an eleventh", Check.STATE, () -> x.ship(0, 0, 0, 0));
        });
        CHECK.test("12 posted shipments count among the ten", () -> {
            FreightRater x = Check.rater("z1:0-9;b1:0*1");
            for (int i = 0; i < 10; i++) {
                Check.load(x, 1, 0, 0);
            }
            x.post(255);
            CHECK.fails("an eleventh", Check.STATE, () -> x.ship(0, 0, 0, 0));
        });
        CHECK.test("12 exceptions: the arguments come first, then that there are 10 shipments", () -> {
            FreightRater x = tenShipments();
            CHECK.fails("place", Check.ARGUMENT, () -> x.ship(1000, 0, 0, 0));
            CHECK.fails("day", Check.ARGUMENT, () -> x.ship(0, -1, 0, 0));
            CHECK.fails("handlings", Check.ARGUMENT, () -> x.ship(0, 0, 256, 0));
            CHECK.fails("customer", Check.ARGUMENT, () -> x.ship(0, 0, 0, 4));
        });
    }

    /** A piece of these sides and this weight can be packed, and is measured like this. */
    private static void packed(int length, int width, int height, int weight, int longest) {
        FreightRater x = new FreightRater();
        x.ship(0, 0, 0, 0);
        CHECK.is("pack", 1, () -> x.pack(0, length, width, height, weight));
        CHECK.is("real weight", weight, () -> x.shipment(0, 5));
        CHECK.is("product", length * width * height, () -> x.shipment(0, 6));
        CHECK.is("longest side", longest, () -> x.shipment(0, 7));
    }

    private static void packLimits() {
        CHECK.test("13 length: 1 and 200 are allowed", () -> {
            packed(1, 2, 3, 4, 3);
            packed(200, 2, 3, 4, 200);
        });
        CHECK.test("13 width: 1 and 200 are allowed", () -> {
            packed(2, 1, 3, 4, 3);
            packed(2, 200, 3, 4, 200);
        });
        CHECK.test("13 height: 1 and 200 are allowed", () -> {
            packed(2, 3, 1, 4, 3);
            packed(2, 3, 200, 4, 200);
        });
        CHECK.test("13 weight: 1 and 999 are allowed", () -> {
            packed(2, 3, 4, 1, 4);
            packed(2, 3, 4, 999, 4);
        });
        CHECK.test("13 the least piece and the greatest one", () -> {
            packed(1, 1, 1, 1, 1);
            packed(200, 200, 200, 999, 200);
        });
    }

    private static void packOutOfRange() {
        FreightRater x = new FreightRater();
        x.ship(0, 0, 0, 0);
        CHECK.test("13 length: out of range", () -> {
            for (int side : Check.outside(1, 200)) {
                CHECK.fails("length " + side, Check.ARGUMENT, () -> x.pack(0, side, 2, 3, 4));
            }
        });
        CHECK.test("13 width: out of range", () -> {
            for (int side : Check.outside(1, 200)) {
                CHECK.fails("width " + side, Check.ARGUMENT, () -> x.pack(0, 1, side, 3, 4));
            }
        });
        CHECK.test("13 height: out of range", () -> {
            for (int side : Check.outside(1, 200)) {
                CHECK.fails("height " + side, Check.ARGUMENT, () -> x.pack(0, 1, 2, side, 4));
            }
        });
        CHECK.test("13 weight: out of range", () -> {
            for (int weight : Check.outside(1, 999)) {
                CHECK.fails("weight " + weight, Check.ARGUMENT, () -> x.pack(0, 1, 2, 3, weight));
            }
        });
        CHECK.test("13 refused calls have added no piece", () -> {
            CHECK.is("pieces", 0, () -> x.shipment(0, 4));
            CHECK.is("the first piece", 1, () -> x.pack(0, 1, 2, 3, 4));
        });
    }

    private static void mostPieces() {
        CHECK.test("13 a fifth piece is allowed, a sixth is not", () -> {
            FreightRater x = new FreightRater();
            x.ship(0, 0, 0, 0);
            for (int i = 1; i <= 5; i++) {
                CHECK.is("piece " + i, i, () -> x.pack(0, 1, 1, 1, 1));
            }
            CHECK.fails("a sixth", Check.STATE, () -> x.pack(0, 1, 1, 1, 1));
            CHECK.is("pieces", 5, () -> x.shipment(0, 4));
        });
        CHECK.test("13 an undone piece leaves place for another one", () -> {
            FreightRater x = fivePieces();
            x.undo();
            CHECK.is("a fifth", 5, () -> x.pack(0, 1, 1, 1, 1));
            CHECK.fails("a sixth", Check.STATE, () -> x.pack(0, 1, 1, 1, 1));
        });
        CHECK.test("13 each shipment has five pieces of its own", () -> {
            FreightRater x = fivePieces();
            x.ship(0, 0, 0, 0);
            CHECK.is("the first one of another shipment", 1, () -> x.pack(1, 1, 1, 1, 1));
        });
        CHECK.test("13 exceptions: the shipment comes first, then sides and weight", () -> {
            FreightRater x = fivePieces();
            CHECK.fails("shipment and length", Check.INDEX, () -> x.pack(1, 0, 1, 1, 1));
            CHECK.fails("shipment and weight", Check.INDEX, () -> x.pack(-1, 1, 1, 1, 1000));
        });
        CHECK.test("13 exceptions: sides and weight come first, then that it has 5 pieces", () -> {
            FreightRater x = fivePieces();
            CHECK.fails("length", Check.ARGUMENT, () -> x.pack(0, 201, 1, 1, 1));
            CHECK.fails("width", Check.ARGUMENT, () -> x.pack(0, 1, 0, 1, 1));
            CHECK.fails("height", Check.ARGUMENT, () -> x.pack(0, 1, 1, 201, 1));
            CHECK.fails("weight", Check.ARGUMENT, () -> x.pack(0, 1, 1, 1, 0));
        });
    }

    private static FreightRater fivePieces() {
        FreightRater x = new FreightRater();
        x.ship(0, 0, 0, 0);
        for (int i = 0; i < 5; i++) {
            x.pack(0, 200, 200, 200, 999);
        }
        return x;
    }

    private static void route() {
        CHECK.test("14 place: 0 and 999 are allowed, the previous one is returned", () -> {
            FreightRater x = new FreightRater();
            x.ship(5, 6, 7, 1);
            CHECK.is("to 0", 5, () -> x.route(0, 0, 6));
            CHECK.is("to 999", 0, () -> x.route(0, 999, 6));
            CHECK.is("place", 999, () -> x.shipment(0, 0));
        });
        CHECK.test("14 day: 0 and 999 are allowed", () -> {
            FreightRater x = new FreightRater();
            x.ship(5, 6, 7, 1);
            CHECK.is("to day 0", 5, () -> x.route(0, 5, 0));
            CHECK.is("day", 0, () -> x.shipment(0, 1));
            CHECK.is("to day 999", 5, () -> x.route(0, 5, 999));
            CHECK.is("day", 999, () -> x.shipment(0, 1));
        });
        CHECK.test("14 place: out of range", () -> {
            FreightRater x = tenShipments();
            for (int place : Check.outside(0, 999)) {
                CHECK.fails("place " + place, Check.ARGUMENT, () -> x.route(0, place, 6));
            }
            CHECK.is("place", 100, () -> x.shipment(0, 0));
            CHECK.is("day", 200, () -> x.shipment(0, 1));
        });
        CHECK.test("14 day: out of range", () -> {
            FreightRater x = tenShipments();
            for (int day : Check.outside(0, 999)) {
                CHECK.fails("day " + day, Check.ARGUMENT, () -> x.route(0, 6, day));
            }
            CHECK.is("place", 100, () -> x.shipment(0, 0));
            CHECK.is("day", 200, () -> x.shipment(0, 1));
        });
        CHECK.test("14 exceptions: the shipment comes first, then place and day", () -> {
            FreightRater x = tenShipments();
            CHECK.fails("shipment and place", Check.INDEX, () -> x.route(10, 1000, 0));
            CHECK.fails("shipment and day", Check.INDEX, () -> x.route(-1, 0, -1));
        });
    }

    private static void handle() {
        CHECK.test("15 handlings: 0 and 255 are allowed, the previous set is returned", () -> {
            FreightRater x = new FreightRater();
            x.ship(5, 6, 7, 1);
            CHECK.is("to 0", 7, () -> x.handle(0, 0));
            CHECK.is("to 255", 0, () -> x.handle(0, 255));
            CHECK.is("to 1", 255, () -> x.handle(0, 1));
            CHECK.is("handlings", 1, () -> x.shipment(0, 2));
        });
        CHECK.test("15 handlings: out of range", () -> {
            FreightRater x = tenShipments();
            for (int handlings : Check.outside(0, 255)) {
                CHECK.fails("handlings " + handlings, Check.ARGUMENT, () -> x.handle(3, handlings));
            }
            CHECK.is("handlings", 3, () -> x.shipment(3, 2));
        });
        CHECK.test("15 exceptions: the shipment comes first, then the handlings", () -> {
            FreightRater x = tenShipments();
            CHECK.fails("handle(10, 256)", Check.INDEX, () -> x.handle(10, 256));
            CHECK.fails("handle(-1, -1)", Check.INDEX, () -> x.handle(-1, -1));
        });
    }

    private static void noSuchShipment() {
        FreightRater none = new FreightRater();
        FreightRater ten = tenShipments();
        CHECK.test("13 shipment: there is no such one", () -> {
            CHECK.fails("pack(0, ..) of a new object", Check.INDEX, () -> none.pack(0, 1, 1, 1, 1));
            for (int shipment : Check.outside(0, 9)) {
                CHECK.fails("pack(" + shipment + ", ..)", Check.INDEX, () -> ten.pack(shipment, 1, 1, 1, 1));
            }
        });
        CHECK.test("14 shipment: there is no such one", () -> {
            CHECK.fails("route(0, ..) of a new object", Check.INDEX, () -> none.route(0, 1, 1));
            for (int shipment : Check.outside(0, 9)) {
                CHECK.fails("route(" + shipment + ", ..)", Check.INDEX, () -> ten.route(shipment, 1, 1));
            }
        });
        CHECK.test("15 shipment: there is no such one", () -> {
            CHECK.fails("handle(0, ..) of a new object", Check.INDEX, () -> none.handle(0, 1));
            for (int shipment : Check.outside(0, 9)) {
                CHECK.fails("handle(" + shipment + ", ..)", Check.INDEX, () -> ten.handle(shipment, 1));
            }
        });
        CHECK.test("16 shipment: there is no such one", () -> {
            CHECK.fails("shipment(0, 0) of a new object", Check.INDEX, () -> none.shipment(0, 0));
            for (int shipment : Check.outside(0, 9)) {
                CHECK.fails("shipment(" + shipment + ", 0)", Check.INDEX, () -> ten.shipment(shipment, 0));
            }
        });
        CHECK.test("13 to 16 shipment: the first one and the last one are allowed", () -> {
            for (int s : new int[] {0, 9}) {
                CHECK.is("pack", 1, () -> ten.pack(s, 1, 1, 1, 1));
                CHECK.is("route", 100 + s, () -> ten.route(s, 1, 1));
                CHECK.is("handle", s, () -> ten.handle(s, 1));
                CHECK.is("shipment", s % 4, () -> ten.shipment(s, 3));
            }
        });
    }

    /** Shipment 0 is posted, with one piece; shipment 1 is open. */
    private static FreightRater onePosted() {
        FreightRater x = Check.rater("z1:0-9;b1:0*1");
        Check.load(x, 7, 3, 1);
        Check.load(x, 8, 4, 2);
        x.post(1);
        return x;
    }

    private static void postedShipment() {
        CHECK.test("13 a posted shipment gets no piece, an open one does", () -> {
            FreightRater x = onePosted();
            CHECK.fails("pack(0, ..)", Check.STATE, () -> x.pack(0, 1, 1, 1, 1));
            CHECK.is("pieces", 1, () -> x.shipment(0, 4));
            CHECK.is("pack(1, ..)", 2, () -> x.pack(1, 1, 1, 1, 1));
        });
        CHECK.test("14 a posted shipment keeps place and day, an open one does not", () -> {
            FreightRater x = onePosted();
            CHECK.fails("route(0, ..)", Check.STATE, () -> x.route(0, 5, 6));
            CHECK.is("place", 0, () -> x.shipment(0, 0));
            CHECK.is("day", 0, () -> x.shipment(0, 1));
            CHECK.fails("also the same ones", Check.STATE, () -> x.route(0, 0, 0));
            CHECK.is("route(1, ..)", 0, () -> x.route(1, 5, 6));
        });
        CHECK.test("15 a posted shipment keeps its handlings, an open one does not", () -> {
            FreightRater x = onePosted();
            CHECK.fails("handle(0, ..)", Check.STATE, () -> x.handle(0, 1));
            CHECK.fails("also the same ones", Check.STATE, () -> x.handle(0, 3));
            CHECK.is("handlings", 3, () -> x.shipment(0, 2));
            CHECK.is("handle(1, ..)", 4, () -> x.handle(1, 1));
        });
        CHECK.test("13 to 15 exceptions: the arguments come first, then that it is posted", () -> {
            FreightRater x = onePosted();
            CHECK.fails("length", Check.ARGUMENT, () -> x.pack(0, 201, 1, 1, 1));
            CHECK.fails("weight", Check.ARGUMENT, () -> x.pack(0, 1, 1, 1, 0));
            CHECK.fails("place", Check.ARGUMENT, () -> x.route(0, -1, 0));
            CHECK.fails("day", Check.ARGUMENT, () -> x.route(0, 0, 1000));
            CHECK.fails("handlings", Check.ARGUMENT, () -> x.handle(0, 256));
        });
        CHECK.test("13 to 15 a shipment whose posting is undone is open", () -> {
            FreightRater x = onePosted();
            x.undo();
            CHECK.is("share", -1, () -> x.shipment(0, 8));
            CHECK.is("pack", 2, () -> x.pack(0, 1, 1, 1, 1));
            CHECK.is("route", 0, () -> x.route(0, 5, 6));
            CHECK.is("handle", 3, () -> x.handle(0, 1));
        });
    }

    private static void properties() {
        FreightRater x = Check.rater("z1:0-9;b1:0*1");
        x.ship(1, 2, 3, 3);
        CHECK.test("16 what: 0 and 8 are allowed", () -> {
            CHECK.is("shipment(0, 0)", 1, () -> x.shipment(0, 0));
            CHECK.is("shipment(0, 8)", -1, () -> x.shipment(0, 8));
        });
        CHECK.test("16 what: out of range", () -> {
            for (int what : Check.outside(0, 8)) {
                CHECK.fails("shipment(0, " + what + ")", Check.ARGUMENT, () -> x.shipment(0, what));
            }
        });
        CHECK.test("16 exceptions: the shipment comes first, then what", () -> {
            CHECK.fails("shipment(1, 9)", Check.INDEX, () -> x.shipment(1, 9));
            CHECK.fails("shipment(-1, -1)", Check.INDEX, () -> x.shipment(-1, -1));
        });
        CHECK.test("16 without pieces all sums and the longest side are 0", () -> {
            for (int what = 4; what < 8; what++) {
                int asked = what;
                CHECK.is("shipment(0, " + what + ")", 0, () -> x.shipment(0, asked));
            }
        });
    }

    private static void sums() {
        CHECK.test("16 five pieces of the greatest size", () -> {
            FreightRater x = fivePieces();
            CHECK.is("pieces", 5, () -> x.shipment(0, 4));
            CHECK.is("real weight", 4995, () -> x.shipment(0, 5));
            CHECK.is("products", 40000000, () -> x.shipment(0, 6));
            CHECK.is("longest side", 200, () -> x.shipment(0, 7));
        });
        CHECK.test("16 the longest side is that of any piece: of the first, of one between, of the last", () -> {
            for (int longest = 0; longest < 3; longest++) {
                FreightRater x = new FreightRater();
                x.ship(0, 0, 0, 0);
                for (int i = 0; i < 3; i++) {
                    x.pack(0, 5, i == longest ? 9 : 4, 6, 1);
                }
                CHECK.is("of piece " + longest, 9, () -> x.shipment(0, 7));
            }
        });
        CHECK.test("16 the longest side is that of any side", () -> {
            packed(9, 5, 6, 1, 9);
            packed(5, 9, 6, 1, 9);
            packed(5, 6, 9, 1, 9);
        });
    }

    private static void shares() {
        CHECK.test("16 share: -1 if it is not posted, also with other ones posted", () -> {
            FreightRater x = onePosted();
            CHECK.is("the posted one", 7, () -> x.shipment(0, 8));
            CHECK.is("the open one", -1, () -> x.shipment(1, 8));
        });
        CHECK.test("16 share: it may be 0, and the shipment is posted nevertheless", () -> {
            // Alone they weigh 10, 10 and 1, together 12: 12 cents are 5, 5 and 0, and two cents are left.
            FreightRater x = Check.rater("z1:0-9;b1:0*1;d1000");
            x.ship(0, 0, 0, 0);
            x.pack(0, 1, 1, 1, 10);
            x.ship(0, 0, 0, 0);
            x.pack(1, 10, 10, 100, 1);
            Check.load(x, 1, 0, 2);
            CHECK.is("post", 12, () -> x.post(7));
            CHECK.is("share 0", 6, () -> x.shipment(0, 8));
            CHECK.is("share 1", 6, () -> x.shipment(1, 8));
            CHECK.is("share 2", 0, () -> x.shipment(2, 8));
            CHECK.is("account(6)", 7, () -> x.account(6));
            CHECK.is("account(2)", 0, () -> x.account(2));
            CHECK.fails("pack(2, ..)", Check.STATE, () -> x.pack(2, 1, 1, 1, 1));
            CHECK.fails("post(4)", Check.UNSUPPORTED, () -> x.post(4));
        });
    }
}
