/** Promises 30 to 34: undo, snapshots, and accessorials as texts. */
public final class UndoTest {
    private static final Check CHECK = new Check("UndoTest");

    public static void main(String[] args) {
        eachChange();
        eightChanges();
        failuresAreNoChanges();
        readingIsNoChange();
        undoThenChange();
        undoKeepsInputAndPaper();
        undoPosting();
        undoRebates();
        undoneShipmentIsMadeAnew();
        saveSnapshot();
        restoreSnapshot();
        snapshotIsNoAlias();
        snapshotAndUndo();
        write();
        writeExceptions();
        paper();
        CHECK.end();
    }

    private static void eachChange() {
        FreightRater x = new FreightRater();
        x.makeVersion(3, -1);
        Check.amend(x, 0, "z1:0-9;b1:0*1");
        x.ship(4, 5, 6, 1);
        x.pack(0, 1, 1, 1, 9);
        x.route(0, 7, 8);
        x.handle(0, 9);
        x.post(1);
        x.setRebate(0, 10);
        CHECK.is("30 setRebate: before", 1, () -> x.rebate(1));
        CHECK.is("30 setRebate", 7, () -> x.undo());
        CHECK.is("30 no rebate", 0, () -> x.rebate(1));
        CHECK.is("30 post: before", 9, () -> x.account(1));
        CHECK.is("30 post", 6, () -> x.undo());
        CHECK.is("30 no account", 0, () -> x.account(1));
        CHECK.is("30 no booked group", 0, () -> x.account(5));
        CHECK.is("30 no posted shipment", 0, () -> x.account(6));
        CHECK.is("30 no share", -1, () -> x.shipment(0, 8));
        CHECK.is("30 handle: before", 9, () -> x.shipment(0, 2));
        CHECK.is("30 handle", 5, () -> x.undo());
        CHECK.is("30 handlings", 6, () -> x.shipment(0, 2));
        CHECK.is("30 route", 4, () -> x.undo());
        CHECK.is("30 place", 4, () -> x.shipment(0, 0));
        CHECK.is("30 day", 5, () -> x.shipment(0, 1));
        CHECK.is("30 pack", 3, () -> x.undo());
        CHECK.is("30 no pieces", 0, () -> x.shipment(0, 4));
        CHECK.is("30 no weight", 0, () -> x.shipment(0, 5));
        CHECK.is("30 no longest side", 0, () -> x.shipment(0, 7));
        CHECK.is("30 ship", 2, () -> x.undo());
        CHECK.fails("30 no shipment", Check.INDEX, () -> x.shipment(0, 0));
        CHECK.is("30 amend", 1, () -> x.undo());
        CHECK.is("30 no ranges", 0, () -> x.version(0, 1));
        CHECK.is("30 no breaks", 0, () -> x.version(0, 7));
        CHECK.is("30 makeVersion", 0, () -> x.undo());
        CHECK.fails("30 no version", Check.INDEX, () -> x.version(0, 0));
        CHECK.fails("30 none left", Check.STATE, () -> x.undo());
    }

    private static void eightChanges() {
        FreightRater x = new FreightRater();
        x.ship(0, 0, 0, 0);
        for (int i = 1; i <= 19; i++) {
            x.route(0, i, 0);
        }
        for (int i = 7; i >= 0; i--) {
            CHECK.is("30 still", i, () -> x.undo());
        }
        CHECK.is("30 eight undone", 11, () -> x.shipment(0, 0));
        CHECK.fails("30 a ninth", Check.STATE, () -> x.undo());
        CHECK.is("30 as before", 11, () -> x.shipment(0, 0));
        x.route(0, 50, 0);
        CHECK.is("30 one again", 0, () -> x.undo());
        CHECK.is("30 undone", 11, () -> x.shipment(0, 0));
    }

    private static void failuresAreNoChanges() {
        FreightRater x = Check.rater("z1:0-9;b1:0*1");
        x.ship(0, 0, 0, 0);
        CHECK.fails("2", Check.ARGUMENT, () -> x.makeVersion(0, -1));
        CHECK.is("4", -100, () -> Check.amend(x, 0, "x"));
        CHECK.fails("4", Check.UNSUPPORTED, () -> Check.amend(x, 0, "c1;r0"));
        CHECK.fails("4", Check.INDEX, () -> Check.amend(x, 1, "c1"));
        CHECK.fails("12", Check.ARGUMENT, () -> x.ship(0, 0, 0, 4));
        CHECK.fails("13", Check.ARGUMENT, () -> x.pack(0, 0, 1, 1, 1));
        CHECK.fails("14", Check.ARGUMENT, () -> x.route(0, 1000, 0));
        CHECK.fails("15", Check.ARGUMENT, () -> x.handle(0, 256));
        CHECK.fails("26", Check.STATE, () -> x.post(1));
        CHECK.fails("28", Check.MISSING, () -> x.setRebate(0, 0));
        CHECK.is("30 ship is undone", 2, () -> x.undo());
        CHECK.fails("30 no shipment", Check.INDEX, () -> x.shipment(0, 0));
    }

    private static void readingIsNoChange() {
        FreightRater x = Check.rater("z1:0-9;b1:0*1;a0:5");
        Check.load(x, 1, 0, 0);
        x.versionOn(0);
        x.rate(1);
        x.consolidate(1);
        x.group(1, 0);
        x.searched(1);
        x.merged(1, 0);
        x.write(0, 0);
        x.saveSnapshot();
        x.feed('c');
        CHECK.is("30 pack is undone", 3, () -> x.undo());
        CHECK.is("30 no pieces", 0, () -> x.shipment(0, 4));
        FreightRater same = Check.rater("c5");
        Check.amend(same, 0, "c5");
        same.setRebate(5, 5);
        same.setRebate(5, 5);
        CHECK.is("30 a change to the same is one", 4, () -> same.undo());
    }

    private static void undoThenChange() {
        FreightRater x = new FreightRater();
        x.ship(1, 0, 0, 0);
        x.route(0, 2, 0);
        x.route(0, 3, 0);
        x.undo();
        x.route(0, 4, 0);
        CHECK.is("30 back to 2", 2, () -> x.undo());
        CHECK.is("30 place", 2, () -> x.shipment(0, 0));
        CHECK.is("30 back to 1", 1, () -> x.undo());
        CHECK.is("30 place", 1, () -> x.shipment(0, 0));
    }

    private static void undoKeepsInputAndPaper() {
        FreightRater x = Check.rater("a1:5");
        CHECK.is("33 length", 4, () -> x.write(0, 1));
        Check.feed(x, "c7");
        x.undo();
        CHECK.is("34 paper is not undone", '5', () -> x.paper(3));
        CHECK.is("3 input is not undone", 3, () -> x.feed('7'));
        x.saveSnapshot();
        Check.feed(x, "7");
        x.restoreSnapshot();
        CHECK.is("3 input is not restored", 5, () -> x.feed(';'));
        CHECK.is("4 the input", -105, () -> x.amend(0));
    }

    private static void undoPosting() {
        FreightRater x = Check.rater("z1:0-9;b1:0*1");
        Check.load(x, 5, 0, 0);
        Check.load(x, 6, 0, 0);
        x.post(1);
        x.post(2);
        CHECK.is("27 two groups", 2, () -> x.account(5));
        x.undo();
        CHECK.is("27 one group", 1, () -> x.account(5));
        CHECK.is("27 account", 5, () -> x.account(0));
        CHECK.is("27 posted", 1, () -> x.account(6));
        CHECK.is("14 open again", 0, () -> x.route(1, 1, 0));
        CHECK.is("26 posted again", 6, () -> x.post(2));
    }

    private static void undoRebates() {
        FreightRater x = Check.rater("z1:0-9;b1:0*1");
        Check.load(x, 100, 0, 0);
        x.post(1);
        x.setRebate(50, 10);
        x.setRebate(40, 20);
        x.setRebate(50, 30);
        CHECK.is("29 anew", 30, () -> x.rebate(0));
        x.undo();
        CHECK.is("30 percentage as before", 10, () -> x.rebate(0));
        x.setRebate(50, 0);
        CHECK.is("29 removed", 20, () -> x.rebate(0));
        x.undo();
        CHECK.is("30 step as before", 10, () -> x.rebate(0));
        x.saveSnapshot();
        x.setRebate(40, 0);
        x.setRebate(50, 0);
        CHECK.is("29 no steps", 0, () -> x.rebate(0));
        x.restoreSnapshot();
        CHECK.is("32 steps as saved", 10, () -> x.rebate(0));
        CHECK.is("32 steps as saved", 1, () -> x.setRebate(50, 0));
        CHECK.is("32 steps as saved", 20, () -> x.rebate(0));
    }

    private static void undoneShipmentIsMadeAnew() {
        FreightRater x = new FreightRater();
        x.ship(1, 2, 3, 1);
        x.pack(0, 9, 9, 9, 9);
        x.undo();
        x.undo();
        CHECK.is("12 anew", 0, () -> x.ship(4, 5, 6, 2));
        CHECK.is("16 without pieces", 0, () -> x.shipment(0, 4));
        CHECK.is("16 without products", 0, () -> x.shipment(0, 6));
        CHECK.is("16 customer", 2, () -> x.shipment(0, 3));
    }

    private static FreightRater filled() {
        FreightRater x = Check.rater("z1:0-9;b1:0*1;a0:5");
        Check.load(x, 5, 0, 2);
        Check.load(x, 6, 0, 0);
        x.post(1);
        x.setRebate(0, 50);
        return x;
    }

    private static void saveSnapshot() {
        FreightRater x = new FreightRater();
        CHECK.is("31 none", 0, () -> x.saveSnapshot());
        x.ship(0, 0, 0, 0);
        x.ship(0, 0, 0, 0);
        CHECK.is("31 two", 2, () -> x.saveSnapshot());
        x.ship(0, 0, 0, 0);
        CHECK.is("32 two", 2, () -> x.restoreSnapshot());
    }

    private static void restoreSnapshot() {
        FreightRater x = filled();
        x.saveSnapshot();
        x.makeVersion(500, 0);
        Check.amend(x, 0, "r0;z2:0-9;m1:7");
        x.ship(0, 0, 0, 0);
        x.route(1, 500, 500);
        x.setRebate(0, 0);
        CHECK.is("32 shipments", 2, () -> x.restoreSnapshot());
        CHECK.fails("32 nothing to undo", Check.STATE, () -> x.undo());
        CHECK.fails("32 versions", Check.INDEX, () -> x.version(1, 0));
        CHECK.is("32 zone", 1, () -> x.zoneOf(0, 0));
        CHECK.is("32 accessorials", 1, () -> x.version(0, 6));
        CHECK.is("32 place", 0, () -> x.shipment(1, 0));
        CHECK.is("32 account", 10, () -> x.account(2));
        CHECK.is("32 booked", 1, () -> x.account(5));
        CHECK.is("32 posted", 1, () -> x.account(6));
        CHECK.is("32 rebate", 5, () -> x.rebate(2));
        x.post(2);
        CHECK.is("32 kept", 2, () -> x.restoreSnapshot());
        CHECK.is("32 posted", 1, () -> x.account(6));
        CHECK.is("32 booked", 1, () -> x.account(5));
        x.pack(1, 1, 1, 1, 1);
        CHECK.is("32 changes after it", 0, () -> x.undo());
    }

    private static void snapshotIsNoAlias() {
        FreightRater x = filled();
        x.saveSnapshot();
        for (int i = 0; i < 4; i++) {
            x.pack(1, 10 * i + 10, 1, 1, 1);
        }
        Check.amend(x, 0, "b1:5*5;b1:0*2;m1:3;a0:6;a1:7");
        x.restoreSnapshot();
        CHECK.is("32 pieces", 1, () -> x.shipment(1, 4));
        CHECK.is("32 products", 1, () -> x.shipment(1, 6));
        x.pack(1, 2, 1, 1, 1);
        x.restoreSnapshot();
        CHECK.is("32 products", 1, () -> x.shipment(1, 6));
        CHECK.is("32 breaks", 1, () -> x.version(0, 7));
        CHECK.is("32 rate", 1, () -> x.breakOf(0, 1, 0, true));
        CHECK.is("32 minimum", 0, () -> x.breakOf(0, 1, -1, true));
        CHECK.is("32 charge", 5, () -> x.accessorial(0, 0, 0));
    }

    private static void snapshotAndUndo() {
        FreightRater x = new FreightRater();
        x.ship(1, 0, 0, 0);
        x.route(0, 2, 0);
        x.saveSnapshot();
        CHECK.is("31 undo goes on", 1, () -> x.undo());
        CHECK.is("30 place", 1, () -> x.shipment(0, 0));
        x.restoreSnapshot();
        CHECK.is("32 the snapshot stays", 2, () -> x.shipment(0, 0));
        CHECK.fails("32 nothing to undo", Check.STATE, () -> x.undo());
        x.route(0, 3, 0);
        x.saveSnapshot();
        x.route(0, 4, 0);
        x.restoreSnapshot();
        CHECK.is("31 in place of the earlier one", 3, () -> x.shipment(0, 0));
    }

    private static void write() {
        String[][] texts = {{"a0:5", "a0:5"}, {"a3:0007", "a3:7"}, {"a9:0000", "a9:0"}, {"a1:099*", "a1:99*"},
            {"a2:0%", "a2:0%"}, {"a4:9999!4", "a4:9999!4"}, {"a5:10%?h0!0", "a5:10%?h0!0"},
            {"a6:5?-h7&w<0100|-n>05&l=0000|-z=9!3", "a6:5?-h7&w<100|-n>5&l=0|-z=9!3"},
            {"a7:1200*?w>9999|w=1000|w<10|w<1", null}, {"a7:12*?w>9999|w=1000|w<10|w<1", "a7:12*?w>9999|w=1000|w<10|w<1"},
            {"a8:1?h1&h2&h3&h4&h5&h6&h7&h0&h1&h2&h3&h4&h5&h6&h7&h0&h1&h2&h3&h4&h5&h6&h7&h0&h1",
                "a8:1?h1&h2&h3&h4&h5&h6&h7&h0&h1&h2&h3&h4&h5&h6&h7&h0&h1&h2&h3&h4&h5&h6&h7&h0&h1"}};
        for (String[] text : texts) {
            FreightRater x = Check.rater();
            if (text[1] == null) {
                CHECK.fails("4 " + text[0], Check.UNSUPPORTED, () -> Check.amend(x, 0, text[0]));
                continue;
            }
            CHECK.is("4 " + text[0], 1, () -> Check.amend(x, 0, text[0]));
            int accessorial = text[0].charAt(1) - '0';
            CHECK.is("33 " + text[0], text[1].length(), () -> x.write(0, accessorial));
            CHECK.is("34 " + text[0] + " is written " + Check.paper(x, text[1].length()), 0,
                    () -> Check.paper(x, text[1].length()).compareTo(text[1]));
            CHECK.is("33 can be read again", 1, () -> Check.amend(x, 0, Check.paper(x, text[1].length())));
        }
    }

    private static void writeExceptions() {
        FreightRater x = Check.rater("a2:77");
        CHECK.is("33 length", 5, () -> x.write(0, 2));
        CHECK.fails("33 missing", Check.MISSING, () -> x.write(0, 1));
        CHECK.fails("33 accessorial 10", Check.MISSING, () -> x.write(0, 10));
        CHECK.fails("33 accessorial -1", Check.MISSING, () -> x.write(0, -1));
        CHECK.fails("33 version before accessorial", Check.INDEX, () -> x.write(1, 1));
        CHECK.fails("33 version -1", Check.INDEX, () -> x.write(-1, 2));
        CHECK.is("33 paper as before", '7', () -> x.paper(4));
    }

    private static void paper() {
        FreightRater x = Check.rater("a2:1234;a3:5");
        CHECK.fails("34 empty", Check.INDEX, () -> x.paper(0));
        x.write(0, 2);
        CHECK.is("34 first", 'a', () -> x.paper(0));
        CHECK.is("34 last", '4', () -> x.paper(6));
        CHECK.fails("34 behind the last", Check.INDEX, () -> x.paper(7));
        CHECK.fails("34 -1", Check.INDEX, () -> x.paper(-1));
        x.write(0, 3);
        CHECK.is("34 in place of what was there", '3', () -> x.paper(1));
        CHECK.fails("34 nothing is left of it", Check.INDEX, () -> x.paper(4));
    }
}
