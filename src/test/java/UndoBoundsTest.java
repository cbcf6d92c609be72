/** A test for each boundary case of undo and of the snapshot: promises 30 to 32. */
public final class UndoBoundsTest {
    private static final Check CHECK = new Check("UndoBoundsTest");

    public static void main(String[] args) {
        latestChanges();
        oldestChange();
        manyChanges();
        eachChange();
        changesToTheSame();
        noChanges();
        neitherUndoneNorRestored();
        snapshots();
        restored();
        snapshotStays();
        snapshotIsWhole();
        CHECK.end();
    }

    /** Shipment 0 has gone through so many places, from 1 on; ship is the first change. */
    private static FreightRater routed(int changes) {
        FreightRater x = new FreightRater();
        x.ship(1, 0, 0, 0);
        for (int place = 2; place <= changes; place++) {
            x.route(0, place, 0);
        }
        return x;
    }

    private static void latestChanges() {
        CHECK.test("30 there is none in a new object", () -> CHECK.fails("undo()", Check.STATE, () -> new FreightRater().undo()));
        CHECK.test("30 one change can be undone, and then none", () -> {
            FreightRater x = routed(1);
            CHECK.is("undo()", 0, () -> x.undo());
            CHECK.fails("undo()", Check.STATE, () -> x.undo());
            CHECK.fails("shipment(0, 0)", Check.INDEX, () -> x.shipment(0, 0));
        });
        CHECK.test("30 with 7 changes all of them can be undone", () -> undone(7, 7));
        CHECK.test("30 with 8 changes all of them can be undone", () -> undone(8, 8));
        CHECK.test("30 with 9 changes the latest 8 can be undone", () -> undone(9, 8));
        CHECK.test("30 with 10 changes the latest 8 can be undone", () -> undone(10, 8));
        CHECK.test("30 with 16, 17 and 100 changes the latest 8 can be undone", () -> {
            undone(16, 8);
            undone(17, 8);
            undone(100, 8);
        });
    }

    private static void undone(int changes, int possible) {
        FreightRater x = routed(changes);
        for (int i = 1; i <= possible; i++) {
            int left = possible - i;
            int place = changes - i;
            CHECK.is("undo " + i + " of " + changes + " changes", left, () -> x.undo());
            if (place > 0) {
                CHECK.is("the place after undo " + i, place, () -> x.shipment(0, 0));
            }
        }
        CHECK.fails("one more", Check.STATE, () -> x.undo());
        CHECK.fails("and one more", Check.STATE, () -> x.undo());
        if (changes > possible) {
            CHECK.is("the place stays", changes - possible, () -> x.shipment(0, 0));
        } else {
            CHECK.fails("there is no shipment", Check.INDEX, () -> x.shipment(0, 0));
        }
    }

    private static void oldestChange() {
        CHECK.test("30 the ninth change makes the oldest one fall off, which stays as it was made", () -> {
            FreightRater x = new FreightRater();
            x.setRebate(5, 5);
            x.makeVersion(7, -1);
            for (int i = 0; i < 7; i++) {
                x.ship(i, 0, 0, 0);
            }
            for (int i = 0; i < 8; i++) {
                x.undo();
            }
            CHECK.fails("one more", Check.STATE, () -> x.undo());
            CHECK.fails("the version is undone", Check.INDEX, () -> x.version(0, 0));
            CHECK.is("the step is not", 0, () -> x.setRebate(5, 0));
        });
        CHECK.test("30 refused calls make no change fall off", () -> {
            FreightRater x = routed(8);
            for (int i = 0; i < 10; i++) {
                CHECK.fails("route", Check.ARGUMENT, () -> x.route(0, 1000, 0));
            }
            for (int left = 7; left >= 0; left--) {
                CHECK.is("undo()", left, () -> x.undo());
            }
            CHECK.fails("shipment(0, 0)", Check.INDEX, () -> x.shipment(0, 0));
        });
    }

    private static void manyChanges() {
        CHECK.test("30 after undo, changes go on from there, and the undone ones are gone", () -> {
            FreightRater x = routed(8);
            x.undo();
            x.undo();
            x.route(0, 50, 0);
            CHECK.is("undo()", 6, () -> x.undo());
            CHECK.is("place", 6, () -> x.shipment(0, 0));
            CHECK.is("undo()", 5, () -> x.undo());
            CHECK.is("place", 5, () -> x.shipment(0, 0));
        });
        CHECK.test("30 after all 8 are undone, 8 other ones can be made and undone", () -> {
            FreightRater x = routed(12);
            for (int i = 0; i < 8; i++) {
                x.undo();
            }
            for (int i = 0; i < 9; i++) {
                x.route(0, 100 + i, 0);
            }
            for (int i = 7; i >= 0; i--) {
                int left = i;
                CHECK.is("undo()", left, () -> x.undo());
                CHECK.is("place", 100 + left, () -> x.shipment(0, 0));
            }
            CHECK.fails("one more", Check.STATE, () -> x.undo());
        });
        CHECK.test("30 undo and change in turn, many times", () -> {
            FreightRater x = routed(5);
            for (int i = 0; i < 30; i++) {
                x.route(0, 100, 0);
                x.route(0, 200, 0);
                x.undo();
                CHECK.is("place", 100, () -> x.shipment(0, 0));
                x.undo();
            }
            CHECK.is("undo()", 4, () -> x.undo());
            CHECK.is("place", 4, () -> x.shipment(0, 0));
        });
        CHECK.test("30 undo itself is no change", () -> {
            FreightRater x = routed(3);
            CHECK.is("undo()", 2, () -> x.undo());
            CHECK.is("undo()", 1, () -> x.undo());
            CHECK.is("place", 1, () -> x.shipment(0, 0));
        });
    }

    private interface Act {
        void on(FreightRater rater);
    }

    /** Shipments 0 and 1 are open, shipment 2 is posted; there is one version, and two rebate steps; more than 8 changes. */
    private static FreightRater ready() {
        FreightRater x = Check.rater("z1:0-9;b1:0*1;a1:5");
        Check.load(x, 3, 4, 1);
        Check.load(x, 4, 8, 2);
        Check.load(x, 95, 0, 3);
        x.post(4);
        x.setRebate(10, 10);
        x.setRebate(20, 20);
        return x;
    }

    private static String all(FreightRater x) {
        StringBuilder text = new StringBuilder();
        View.STATE.forEach((name, reading) -> text.append(name).append(' ').append(reading.of(x)).append('\n'));
        return text.toString();
    }

    private static void isUndone(String name, Act change) {
        CHECK.test("30 " + name + " is a change: undo takes back all of it, and nothing else", () -> {
            FreightRater x = ready();
            change.on(x);
            CHECK.is("another state", 1, () -> {
                FreightRater changed = ready();
                change.on(changed);
                return all(changed).equals(all(ready())) ? 0 : 1;
            });
            CHECK.is("undo()", 7, () -> x.undo());
            CHECK.reads("the state", all(ready()), all(x));
        });
    }

    private static void eachChange() {
        isUndone("makeVersion, empty,", x -> x.makeVersion(500, -1));
        isUndone("makeVersion, copied,", x -> x.makeVersion(500, 0));
        for (String text : new String[] {"z2:0-9", "b1:0*2", "b1:5*1", "b1:0*0", "m1:9", "d1000", "f1", "s1", "c1", "a1:6", "a2:1", "r1"}) {
            isUndone("amend by " + text, x -> Check.amend(x, 0, text));
        }
        isUndone("amend by several statements", x -> Check.amend(x, 0, "z3:0-9;b3:5*5;a0:1;r1;f9"));
        isUndone("ship", x -> x.ship(1, 2, 3, 3));
        isUndone("pack", x -> x.pack(0, 20, 30, 40, 50));
        isUndone("route", x -> x.route(1, 50, 60));
        isUndone("handle", x -> x.handle(0, 255));
        isUndone("post of one", x -> x.post(2));
        isUndone("post of all", x -> x.post(3));
        isUndone("setRebate of a new step", x -> x.setRebate(0, 50));
        isUndone("setRebate in place of a step", x -> x.setRebate(20, 30));
        isUndone("setRebate that removes the first step", x -> x.setRebate(10, 0));
        isUndone("setRebate that removes the last step", x -> x.setRebate(20, 0));
    }

    private static void changesToTheSame() {
        CHECK.test("30 a successful call that leaves all as it was is a change, too", () -> {
            Act[] same = {x -> Check.amend(x, 0, "c999"), x -> x.route(0, 1, 0), x -> x.handle(0, 0), x -> x.setRebate(10, 10)};
            for (Act act : same) {
                FreightRater x = new FreightRater();
                x.makeVersion(0, -1);
                x.ship(1, 0, 0, 0);
                x.setRebate(10, 10);
                act.on(x);
                CHECK.is("undo()", 3, () -> x.undo());
                CHECK.is("undo()", 2, () -> x.undo());
                CHECK.fails("the step is undone by the second one", Check.MISSING, () -> x.setRebate(10, 0));
            }
        });
    }

    private static void isNoChange(String name, Act act) {
        CHECK.test("30 " + name + " is no change", () -> {
            FreightRater x = ready();
            x.route(1, 5, 0);
            act.on(x);
            CHECK.is("undo()", 7, () -> x.undo());
            CHECK.is("the place is that before route", 0, () -> x.shipment(1, 0));
        });
    }

    private static void noChanges() {
        isNoChange("feed", x -> x.feed('c'));
        isNoChange("amend with a fault", x -> Check.amend(x, 0, "c5;"));
        isNoChange("amend with an empty input", x -> x.amend(0));
        isNoChange("amend with an impossible statement", x -> CHECK.fails("amend", Check.UNSUPPORTED, () -> Check.amend(x, 0, "c5;r0")));
        isNoChange("amend of no version", x -> CHECK.fails("amend", Check.INDEX, () -> Check.amend(x, 1, "c5")));
        isNoChange("rate", x -> x.rate(1));
        isNoChange("consolidate", x -> x.consolidate(3));
        isNoChange("write", x -> x.write(0, 1));
        isNoChange("saveSnapshot", x -> x.saveSnapshot());
        isNoChange("reading", UndoBoundsTest::read);
    }

    private static void read(FreightRater x) {
        x.versionOn(0);
        x.version(0, 0);
        x.zoneOf(0, 0);
        x.breakOf(0, 1, 0, true);
        x.accessorial(0, 1, 0);
        x.base(0, 1, 5);
        x.shipment(0, 0);
        x.rating(1, 0);
        x.refuses(1);
        x.meanPrice(1);
        x.group(3, 0);
        x.searched(3);
        x.merged(3, 0);
        x.account(0);
        x.rebate(0);
    }

    /** Input "c", paper a1:5, impossible 1, refusal 1 for shipment 3; with this, changes are undone or a snapshot is restored. */
    private static FreightRater keeping() {
        FreightRater x = ready();
        x.saveSnapshot();
        x.ship(0, 0, 0, 0);
        CHECK.fails("rate(8)", Check.STATE, () -> x.rate(8));
        CHECK.fails("amend(0)", Check.UNSUPPORTED, () -> Check.amend(x, 0, "c5;r0"));
        x.write(0, 1);
        Check.amend(x, 0, "r1");
        x.feed('c');
        return x;
    }

    private static void neitherUndoneNorRestored() {
        Act[] acts = {x -> x.undo(), x -> {
            for (int i = 0; i < 8; i++) {
                x.undo();
            }
        }, x -> x.restoreSnapshot()};
        String[] names = {"undo", "eight times undo", "restoreSnapshot"};
        for (int i = 0; i < acts.length; i++) {
            Act act = acts[i];
            CHECK.test("30, 32 the input is not changed by " + names[i], () -> {
                FreightRater x = keeping();
                act.on(x);
                CHECK.is("feed", 2, () -> x.feed('7'));
            });
            CHECK.test("30, 32 the paper is not changed by " + names[i], () -> {
                FreightRater x = keeping();
                act.on(x);
                CHECK.reads("the paper", "a1:5", Check.paper(x, 4));
                CHECK.fails("paper(4)", Check.INDEX, () -> x.paper(4));
            });
            CHECK.test("30, 32 what is kept for refusal is not changed by " + names[i], () -> {
                FreightRater x = keeping();
                act.on(x);
                CHECK.is("the reason", 1, () -> x.refusal(false));
                CHECK.is("the detail", 3, () -> x.refusal(true));
            });
            CHECK.test("30, 32 what is kept for impossible is not changed by " + names[i], () -> {
                FreightRater x = keeping();
                act.on(x);
                CHECK.is("impossible()", 1, () -> x.impossible());
            });
        }
        CHECK.test("30 the input that amend has emptied does not come back by undo", () -> {
            FreightRater x = Check.rater("c5");
            x.undo();
            CHECK.is("the capacity", 999, () -> x.version(0, 5));
            CHECK.is("amend(0)", -100, () -> x.amend(0));
        });
    }

    private static void snapshots() {
        CHECK.test("32 no snapshot was saved", () -> {
            CHECK.fails("of a new object", Check.STATE, () -> new FreightRater().restoreSnapshot());
            CHECK.fails("of a filled one", Check.STATE, () -> ready().restoreSnapshot());
        });
        CHECK.test("31 the number of shipments: none and ten", () -> {
            FreightRater x = new FreightRater();
            CHECK.is("none", 0, () -> x.saveSnapshot());
            for (int i = 0; i < 10; i++) {
                x.ship(0, 0, 0, 0);
            }
            CHECK.is("ten", 10, () -> x.saveSnapshot());
        });
        CHECK.test("32 the number of shipments is that of the snapshot: none and ten", () -> {
            FreightRater x = new FreightRater();
            x.saveSnapshot();
            for (int i = 0; i < 10; i++) {
                x.ship(0, 0, 0, 0);
            }
            CHECK.is("none", 0, () -> x.restoreSnapshot());
            for (int i = 0; i < 10; i++) {
                x.ship(0, 0, 0, 0);
            }
            x.saveSnapshot();
            x.undo();
            CHECK.is("ten", 10, () -> x.restoreSnapshot());
            CHECK.fails("an eleventh", Check.STATE, () -> x.ship(0, 0, 0, 0));
        });
        CHECK.test("31 a snapshot of a new object can be restored", () -> {
            FreightRater x = new FreightRater();
            x.saveSnapshot();
            x.makeVersion(0, -1);
            x.ship(0, 0, 0, 0);
            x.setRebate(10, 1);
            x.restoreSnapshot();
            CHECK.reads("the state", all(new FreightRater()), all(x));
        });
        CHECK.test("31 a snapshot is saved in place of an earlier one", () -> {
            FreightRater x = routed(1);
            x.saveSnapshot();
            x.route(0, 50, 0);
            x.saveSnapshot();
            x.route(0, 60, 0);
            x.restoreSnapshot();
            CHECK.is("place", 50, () -> x.shipment(0, 0));
            x.restoreSnapshot();
            CHECK.is("place", 50, () -> x.shipment(0, 0));
        });
        CHECK.test("31 saving changes nothing, and takes nothing from what can be undone", () -> {
            FreightRater x = routed(9);
            x.saveSnapshot();
            for (int left = 7; left >= 0; left--) {
                CHECK.is("undo()", left, () -> x.undo());
            }
            CHECK.is("place", 1, () -> x.shipment(0, 0));
        });
    }

    private static void restored() {
        CHECK.test("32 no changes can be undone afterwards, neither those before saving nor those after", () -> {
            FreightRater x = routed(3);
            x.saveSnapshot();
            x.route(0, 50, 0);
            x.restoreSnapshot();
            CHECK.fails("undo()", Check.STATE, () -> x.undo());
            CHECK.is("place", 3, () -> x.shipment(0, 0));
        });
        CHECK.test("32 also if nothing has changed since it was saved", () -> {
            FreightRater x = routed(8);
            x.saveSnapshot();
            x.restoreSnapshot();
            CHECK.fails("undo()", Check.STATE, () -> x.undo());
        });
        CHECK.test("32 changes after it can be undone, back to it and no further", () -> {
            FreightRater x = routed(5);
            x.saveSnapshot();
            x.restoreSnapshot();
            for (int i = 0; i < 3; i++) {
                x.route(0, 50 + i, 0);
            }
            CHECK.is("undo()", 2, () -> x.undo());
            CHECK.is("undo()", 1, () -> x.undo());
            CHECK.is("undo()", 0, () -> x.undo());
            CHECK.is("place", 5, () -> x.shipment(0, 0));
            CHECK.fails("one more", Check.STATE, () -> x.undo());
        });
        CHECK.test("32 after it the latest 8 changes can be undone again", () -> {
            FreightRater x = routed(5);
            x.saveSnapshot();
            x.restoreSnapshot();
            for (int i = 1; i <= 9; i++) {
                x.route(0, 50 + i, 0);
            }
            for (int left = 7; left >= 0; left--) {
                CHECK.is("undo()", left, () -> x.undo());
            }
            CHECK.is("place", 51, () -> x.shipment(0, 0));
            CHECK.fails("one more", Check.STATE, () -> x.undo());
        });
        CHECK.test("32 a refused call leaves what can be undone", () -> {
            FreightRater x = routed(3);
            CHECK.fails("restoreSnapshot()", Check.STATE, () -> x.restoreSnapshot());
            CHECK.is("undo()", 2, () -> x.undo());
            CHECK.is("place", 2, () -> x.shipment(0, 0));
        });
    }

    private static void snapshotStays() {
        CHECK.test("32 the snapshot is kept and can be restored again", () -> {
            FreightRater x = routed(2);
            x.saveSnapshot();
            for (int i = 0; i < 5; i++) {
                x.route(0, 50 + i, 0);
                x.ship(0, 0, 0, 0);
                CHECK.is("restoreSnapshot()", 1, () -> x.restoreSnapshot());
                CHECK.is("place", 2, () -> x.shipment(0, 0));
            }
        });
        CHECK.test("31 the snapshot is not undone", () -> {
            FreightRater x = routed(2);
            x.saveSnapshot();
            x.undo();
            x.undo();
            CHECK.is("restoreSnapshot()", 1, () -> x.restoreSnapshot());
            CHECK.is("place", 2, () -> x.shipment(0, 0));
        });
        CHECK.test("31 a snapshot may be saved after an undo, and holds the state of then", () -> {
            FreightRater x = routed(4);
            x.undo();
            x.saveSnapshot();
            x.undo();
            x.restoreSnapshot();
            CHECK.is("place", 3, () -> x.shipment(0, 0));
        });
        CHECK.test("31 no change reaches the snapshot, whatever it changes", () -> {
            FreightRater x = ready();
            x.saveSnapshot();
            changeAll(x);
            x.restoreSnapshot();
            changeAll(x);
            CHECK.is("restoreSnapshot()", 3, () -> x.restoreSnapshot());
            CHECK.reads("the state", all(ready()), all(x));
        });
    }

    private static void changeAll(FreightRater x) {
        x.makeVersion(500, 0);
        x.ship(1, 2, 3, 3);
        x.pack(0, 20, 30, 40, 50);
        x.route(1, 5, 0);
        x.handle(1, 255);
        x.post(1);
        Check.amend(x, 0, "z2:0-5;b1:0*2;b1:5*1;m1:9;d1000;f1;s1;c1;a1:6;a2:1");
        x.setRebate(10, 0);
        x.setRebate(20, 50);
        x.setRebate(0, 1);
    }

    private static void snapshotIsWhole() {
        Act[] acts = {x -> x.makeVersion(500, 0), x -> Check.amend(x, 0, "z2:0-5;b1:0*2;r1"), x -> x.ship(1, 2, 3, 3),
            x -> x.pack(0, 20, 30, 40, 50), x -> x.route(1, 5, 6), x -> x.handle(1, 255), x -> x.post(1), x -> x.post(3),
            x -> x.setRebate(20, 50), x -> x.setRebate(10, 0)};
        String[] names = {"versions", "what versions consist of", "shipments", "pieces", "places and days", "handlings",
            "a posting of one", "a posting of several", "rebate steps", "removed rebate steps"};
        for (int i = 0; i < acts.length; i++) {
            Act act = acts[i];
            CHECK.test("31, 32 saved and restored: " + names[i], () -> {
                FreightRater x = ready();
                act.on(x);
                x.saveSnapshot();
                for (int k = 0; k < 8; k++) {
                    x.undo();
                }
                x.restoreSnapshot();
                FreightRater due = ready();
                act.on(due);
                CHECK.reads("the state", all(due), all(x));
            });
        }
    }
}
