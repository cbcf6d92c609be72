/** A test for each boundary case of a new object, of versions, and of what they answer: promises 1, 2 and 6 to 11. */
public final class VersionBoundsTest {
    private static final Check CHECK = new Check("VersionBoundsTest");

    public static void main(String[] args) {
        newObject();
        lastCall();
        firstDays();
        copiedFrom();
        mostVersions();
        versionOfDay();
        propertyNumbers();
        propertyLimits();
        zones();
        breaks();
        accessorials();
        bases();
        basesAtBreaks();
        CHECK.end();
    }

    private static void newObject() {
        FreightRater x = new FreightRater();
        CHECK.test("1 a new object has no versions", () -> {
            CHECK.fails("version(0, 0)", Check.INDEX, () -> x.version(0, 0));
            CHECK.fails("versionOn(0)", Check.MISSING, () -> x.versionOn(0));
            CHECK.fails("versionOn(999)", Check.MISSING, () -> x.versionOn(999));
        });
        CHECK.test("1 a new object has no shipments", () -> {
            CHECK.fails("shipment(0, 0)", Check.INDEX, () -> x.shipment(0, 0));
            CHECK.fails("refuses(1)", Check.INDEX, () -> x.refuses(1));
            CHECK.fails("consolidate(1)", Check.INDEX, () -> x.consolidate(1));
            CHECK.is("account(6)", 0, () -> x.account(6));
        });
        CHECK.test("1 a new object has nothing on its accounts", () -> {
            for (int customer = 0; customer < 6; customer++) {
                int asked = customer;
                CHECK.is("account(" + customer + ")", 0, () -> x.account(asked));
            }
            CHECK.is("rebate(0)", 0, () -> x.rebate(0));
        });
        CHECK.test("1 a new object has no rebate steps", () -> {
            CHECK.fails("setRebate(0, 0)", Check.MISSING, () -> x.setRebate(0, 0));
            CHECK.is("setRebate(0, 1)", 1, () -> new FreightRater().setRebate(0, 1));
        });
        CHECK.test("30, 32 a new object has nothing to undo or to restore", () -> {
            CHECK.fails("undo()", Check.STATE, () -> x.undo());
            CHECK.fails("restoreSnapshot()", Check.STATE, () -> x.restoreSnapshot());
        });
        CHECK.test("5, 20 nothing is kept at first", () -> {
            CHECK.fails("impossible()", Check.MISSING, () -> x.impossible());
            CHECK.fails("refusal(false)", Check.MISSING, () -> x.refusal(false));
            CHECK.fails("refusal(true)", Check.MISSING, () -> x.refusal(true));
        });
        CHECK.test("3, 34 input and paper are empty at first", () -> {
            CHECK.fails("paper(0)", Check.INDEX, () -> x.paper(0));
            CHECK.is("amend(0)", -100, () -> Check.rater().amend(0));
            CHECK.is("feed", 1, () -> x.feed('c'));
        });
        CHECK.test("1 two objects have nothing in common", () -> {
            FreightRater y = new FreightRater();
            y.makeVersion(0, -1);
            y.ship(0, 0, 0, 0);
            y.setRebate(0, 1);
            Check.feed(y, "cc");
            CHECK.fails("version(0, 0)", Check.INDEX, () -> x.version(0, 0));
            CHECK.fails("shipment(0, 0)", Check.INDEX, () -> x.shipment(0, 0));
            CHECK.fails("undo()", Check.STATE, () -> x.undo());
            CHECK.is("feed", 2, () -> x.feed('c'));
        });
    }

    private static void lastCall() {
        CHECK.test("an object is used for 512 calls, and answers the last one", () -> {
            FreightRater x = new FreightRater();
            x.ship(0, 0, 0, 0);
            for (int call = 2; call < 509; call++) {
                x.route(0, call, 0);
            }
            CHECK.is("call 509", 508, () -> x.route(0, 1, 1));
            CHECK.is("call 510", 7, () -> x.undo());
            CHECK.is("call 511", 6, () -> x.undo());
            CHECK.is("call 512", 507, () -> x.shipment(0, 0));
        });
    }

    private static void firstDays() {
        CHECK.test("2 day: 0 is the first one", () -> {
            FreightRater x = new FreightRater();
            CHECK.is("makeVersion(0, -1)", 0, () -> x.makeVersion(0, -1));
            CHECK.is("version(0, 0)", 0, () -> x.version(0, 0));
        });
        CHECK.test("2 day: 999 is the last one", () -> {
            FreightRater x = new FreightRater();
            CHECK.is("makeVersion(999, -1)", 0, () -> x.makeVersion(999, -1));
            CHECK.is("version(0, 0)", 999, () -> x.version(0, 0));
        });
        CHECK.test("2 day: out of range", () -> {
            FreightRater x = new FreightRater();
            for (int day : Check.outside(0, 999)) {
                CHECK.fails("makeVersion(" + day + ", -1)", Check.ARGUMENT, () -> x.makeVersion(day, -1));
            }
            CHECK.fails("version(0, 0)", Check.INDEX, () -> x.version(0, 0));
        });
        CHECK.test("2 day: no two versions have the same first one", () -> {
            FreightRater x = new FreightRater();
            x.makeVersion(500, -1);
            x.makeVersion(600, -1);
            CHECK.fails("the first one's", Check.ARGUMENT, () -> x.makeVersion(500, -1));
            CHECK.fails("the last one's", Check.ARGUMENT, () -> x.makeVersion(600, -1));
            CHECK.fails("the source's", Check.ARGUMENT, () -> x.makeVersion(600, 1));
            CHECK.is("a day before", 2, () -> x.makeVersion(499, -1));
            CHECK.is("a day after", 3, () -> x.makeVersion(601, -1));
        });
        CHECK.test("2 day: that of a version that was undone is free again", () -> {
            FreightRater x = new FreightRater();
            x.makeVersion(500, -1);
            x.undo();
            CHECK.is("makeVersion(500, -1)", 0, () -> x.makeVersion(500, -1));
        });
    }

    private static void copiedFrom() {
        CHECK.test("2 from: the first version and the last one", () -> {
            FreightRater x = Check.rater("c1");
            x.makeVersion(1, -1);
            Check.amend(x, 1, "c2");
            CHECK.is("makeVersion(2, 0)", 2, () -> x.makeVersion(2, 0));
            CHECK.is("its capacity", 1, () -> x.version(2, 5));
            x.undo();
            CHECK.is("makeVersion(2, 1)", 2, () -> x.makeVersion(2, 1));
            CHECK.is("its capacity", 2, () -> x.version(2, 5));
        });
        CHECK.test("2 from: neither a version nor -1", () -> {
            FreightRater x = Check.rater();
            x.makeVersion(1, -1);
            for (int from : new int[] {2, 3, -2, Integer.MAX_VALUE, Integer.MIN_VALUE}) {
                CHECK.fails("makeVersion(2, " + from + ")", Check.INDEX, () -> x.makeVersion(2, from));
            }
            CHECK.fails("makeVersion(0, 0) of a new object", Check.INDEX, () -> new FreightRater().makeVersion(0, 0));
        });
        CHECK.test("2 from: everything but the first day is copied", () -> {
            FreightRater x = Check.rater("z9:0-1;z1:50-99;b1:0*9;b1:9*8;b9:5*7;m1:6;m9:5;d4444;f3;s2;c1",
                    "a0:9*?-h0&w<5|n=2!9;a5:50%!0;a9:1");
            x.makeVersion(998, 0);
            int[] due = {998, 2, 4444, 3, 2, 1, 545, 3};
            for (int what = 0; what < due.length; what++) {
                int asked = what;
                CHECK.is("version(1, " + what + ")", due[what], () -> x.version(1, asked));
            }
            CHECK.is("zone of place 1", 9, () -> x.zoneOf(1, 1));
            CHECK.is("rate of a break", 7, () -> x.breakOf(1, 9, 0, true));
            CHECK.is("minimum charge", 5, () -> x.breakOf(1, 9, -1, true));
            CHECK.is("tests of a condition", 3, () -> x.accessorial(1, 0, 3));
            CHECK.is("what it excludes", 9, () -> x.accessorial(1, 0, 4));
            CHECK.reads("all but the first day", View.version(x, 0), View.version(x, 1));
        });
        CHECK.test("2 from: a full version is copied in full", () -> {
            FreightRater x = fullVersion();
            x.makeVersion(999, 0);
            CHECK.reads("all but the first day", View.version(x, 0), View.version(x, 1));
        });
        CHECK.test("2 from: copy and original change alone", () -> {
            FreightRater x = Check.rater("z1:0-9;b1:5*5;m1:6;a1:7");
            x.makeVersion(5, 0);
            String before = View.version(x, 0);
            Check.amend(x, 1, "z2:0-9;b1:5*0;b1:6*6;m1:7;a1:8;a2:9;d1000;f1;s1;c1");
            CHECK.reads("the original", before, View.version(x, 0));
            String copy = View.version(x, 1);
            Check.amend(x, 0, "z3:0-9;b1:7*7;m1:9;r1;d2000;f2;s2;c2");
            CHECK.reads("the copy", copy, View.version(x, 1));
        });
        CHECK.test("2 from: -1 is an empty version, also behind others", () -> {
            FreightRater x = Check.rater("z1:0-9;b1:5*5;m1:6;a1:7;d1000;f1;s1;c1");
            x.makeVersion(5, -1);
            CHECK.is("no ranges", 0, () -> x.version(1, 1));
            CHECK.is("the divisor", 5000, () -> x.version(1, 2));
            CHECK.is("the fuel percentage", 0, () -> x.version(1, 3));
            CHECK.is("the stop charge", 0, () -> x.version(1, 4));
            CHECK.is("the capacity", 999, () -> x.version(1, 5));
            CHECK.is("no accessorials", 0, () -> x.version(1, 6));
            CHECK.is("no breaks", 0, () -> x.version(1, 7));
            for (int zone = 1; zone < 10; zone++) {
                int asked = zone;
                CHECK.is("the minimum charge of zone " + zone, 0, () -> x.breakOf(1, asked, -1, true));
            }
        });
    }

    /** Twelve ranges, five breaks in the first zone and the last one, all accessorials. */
    private static FreightRater fullVersion() {
        return Check.rater("z1:0-0;z2:1-1;z3:9-9;z4:10-10;z5:20-20;z6:49-49;z7:50-50;z8:59-59", "z9:60-60;z1:99-99;z2:100-100;z3:999-999",
                "b1:0*9;b1:1*8;b1:2*7;b1:3*6;b1:4*5;b9:9999*99;b9:9*2;b9:8*3;b9:7*4;b9:6*5", "a0:0;a1:1;a2:2;a3:3;a4:4;a5:5;a6:6;a7:7;a8:8;a9:9");
    }

    private static void mostVersions() {
        CHECK.test("2 there are at most 6 versions, numbered in the order in which they are made", () -> {
            FreightRater x = new FreightRater();
            for (int i = 0; i < 6; i++) {
                int number = i;
                CHECK.is("version " + i, i, () -> x.makeVersion(50 - number, number - 1));
            }
            CHECK.fails("a seventh, empty", Check.STATE, () -> x.makeVersion(60, -1));
            CHECK.fails("a seventh, copied", Check.STATE, () -> x.makeVersion(60, 5));
            for (int i = 0; i < 6; i++) {
                int number = i;
                CHECK.is("the day of version " + i, 50 - i, () -> x.version(number, 0));
            }
            CHECK.fails("version(6, 0)", Check.INDEX, () -> x.version(6, 0));
        });
        CHECK.test("2 an undone version leaves place for another one", () -> {
            FreightRater x = sixVersions();
            x.undo();
            CHECK.fails("version(5, 0)", Check.INDEX, () -> x.version(5, 0));
            CHECK.is("a sixth", 5, () -> x.makeVersion(60, -1));
            CHECK.fails("a seventh", Check.STATE, () -> x.makeVersion(61, -1));
        });
        CHECK.test("2 exceptions: the day comes first, then from, then that there are 6 versions", () -> {
            FreightRater x = sixVersions();
            CHECK.fails("day and from", Check.ARGUMENT, () -> x.makeVersion(1000, 6));
            CHECK.fails("same day and from", Check.ARGUMENT, () -> x.makeVersion(5, -2));
            CHECK.fails("day and 6 versions", Check.ARGUMENT, () -> x.makeVersion(-1, 0));
            CHECK.fails("same day and 6 versions", Check.ARGUMENT, () -> x.makeVersion(0, -1));
            CHECK.fails("from and 6 versions", Check.INDEX, () -> x.makeVersion(60, 6));
        });
    }

    private static FreightRater sixVersions() {
        FreightRater x = new FreightRater();
        for (int day = 0; day < 6; day++) {
            x.makeVersion(day, -1);
        }
        return x;
    }

    private static void versionOfDay() {
        FreightRater x = new FreightRater();
        x.makeVersion(500, -1);
        x.makeVersion(1, -1);
        x.makeVersion(998, -1);
        CHECK.test("6 the greatest first day that is not after the day", () -> {
            int[] days = {1, 2, 499, 500, 501, 997, 998, 999};
            int[] due = {1, 1, 1, 0, 0, 0, 2, 2};
            for (int i = 0; i < days.length; i++) {
                int day = days[i];
                CHECK.is("versionOn(" + day + ")", due[i], () -> x.versionOn(day));
            }
        });
        CHECK.test("6 there is none before the first day of all", () ->
                CHECK.fails("versionOn(0)", Check.MISSING, () -> x.versionOn(0)));
        CHECK.test("6 day: 0 and 999 are allowed", () -> {
            FreightRater y = new FreightRater();
            y.makeVersion(999, -1);
            y.makeVersion(0, -1);
            CHECK.is("versionOn(0)", 1, () -> y.versionOn(0));
            CHECK.is("versionOn(998)", 1, () -> y.versionOn(998));
            CHECK.is("versionOn(999)", 0, () -> y.versionOn(999));
        });
        CHECK.test("6 day: out of range", () -> {
            for (int day : Check.outside(0, 999)) {
                CHECK.fails("versionOn(" + day + ")", Check.ARGUMENT, () -> x.versionOn(day));
            }
        });
        CHECK.test("6 exceptions: the day comes first, then that there is none", () ->
                CHECK.fails("versionOn(-1) of a new object", Check.ARGUMENT, () -> new FreightRater().versionOn(-1)));
    }

    private static void propertyNumbers() {
        FreightRater x = Check.rater();
        x.makeVersion(7, -1);
        CHECK.test("7 version: 0 and the last one are allowed", () -> {
            CHECK.is("version(0, 0)", 0, () -> x.version(0, 0));
            CHECK.is("version(1, 0)", 7, () -> x.version(1, 0));
        });
        CHECK.test("7 version: there is no such one", () -> {
            for (int version : new int[] {-1, 2, 3, Integer.MIN_VALUE, Integer.MAX_VALUE}) {
                CHECK.fails("version(" + version + ", 0)", Check.INDEX, () -> x.version(version, 0));
            }
        });
        CHECK.test("7 what: 0 and 7 are allowed", () -> {
            Check.amend(x, 1, "b1:1*1");
            CHECK.is("version(1, 0)", 7, () -> x.version(1, 0));
            CHECK.is("version(1, 7)", 1, () -> x.version(1, 7));
        });
        CHECK.test("7 what: out of range", () -> {
            for (int what : Check.outside(0, 7)) {
                CHECK.fails("version(0, " + what + ")", Check.ARGUMENT, () -> x.version(0, what));
            }
        });
        CHECK.test("7 exceptions: the version comes first, then what", () -> {
            CHECK.fails("version(2, 8)", Check.INDEX, () -> x.version(2, 8));
            CHECK.fails("version(-1, -1)", Check.INDEX, () -> x.version(-1, -1));
        });
    }

    private static void propertyLimits() {
        CHECK.test("7 ranges: none and 12", () -> {
            CHECK.is("none", 0, () -> Check.rater().version(0, 1));
            CHECK.is("12", 12, () -> fullVersion().version(0, 1));
        });
        CHECK.test("7 accessorials: none, the first one, the last one, all", () -> {
            CHECK.is("none", 0, () -> Check.rater().version(0, 6));
            CHECK.is("the first one", 1, () -> Check.rater("a0:1").version(0, 6));
            CHECK.is("the last one", 512, () -> Check.rater("a9:1").version(0, 6));
            CHECK.is("all", 1023, () -> fullVersion().version(0, 6));
        });
        CHECK.test("7 breaks: none, and five in each of the nine zones", () -> {
            CHECK.is("none", 0, () -> Check.rater().version(0, 7));
            FreightRater x = Check.rater();
            for (int zone = 1; zone < 10; zone++) {
                int asked = zone;
                CHECK.is("five statements", 5, () -> Check.amend(x, 0, "bZ:0*1;bZ:1*1;bZ:2*1;bZ:3*1;bZ:4*1".replace('Z', (char) ('0' + asked))));
            }
            CHECK.is("all", 45, () -> x.version(0, 7));
        });
    }

    private static void zones() {
        FreightRater x = Check.rater("z1:10-20;z9:0-0;z8:999-999;z3:50-50");
        CHECK.test("8 a range contains its first place and its last one", () -> {
            CHECK.is("zoneOf(0, 10)", 1, () -> x.zoneOf(0, 10));
            CHECK.is("zoneOf(0, 20)", 1, () -> x.zoneOf(0, 20));
        });
        CHECK.test("8 a range does not contain the places next to it", () -> {
            CHECK.fails("zoneOf(0, 9)", Check.MISSING, () -> x.zoneOf(0, 9));
            CHECK.fails("zoneOf(0, 21)", Check.MISSING, () -> x.zoneOf(0, 21));
        });
        CHECK.test("8 a range of one place contains this one alone", () -> {
            CHECK.fails("zoneOf(0, 49)", Check.MISSING, () -> x.zoneOf(0, 49));
            CHECK.is("zoneOf(0, 50)", 3, () -> x.zoneOf(0, 50));
            CHECK.fails("zoneOf(0, 51)", Check.MISSING, () -> x.zoneOf(0, 51));
        });
        CHECK.test("8 place: 0 and 999 are allowed", () -> {
            CHECK.is("zoneOf(0, 0)", 9, () -> x.zoneOf(0, 0));
            CHECK.is("zoneOf(0, 999)", 8, () -> x.zoneOf(0, 999));
        });
        CHECK.test("8 place: there is no such one", () -> {
            for (int place : Check.outside(0, 999)) {
                CHECK.fails("zoneOf(0, " + place + ")", Check.INDEX, () -> x.zoneOf(0, place));
            }
        });
        CHECK.test("8 version: there is no such one", () -> {
            for (int version : Check.outside(0, 0)) {
                CHECK.fails("zoneOf(" + version + ", 10)", Check.INDEX, () -> x.zoneOf(version, 10));
            }
        });
        CHECK.test("8 exceptions: the version comes first, then that the place has no zone", () ->
                CHECK.fails("zoneOf(1, 500)", Check.INDEX, () -> x.zoneOf(1, 500)));
        CHECK.test("8 without ranges no place has a zone", () -> {
            FreightRater y = Check.rater();
            CHECK.fails("zoneOf(0, 0)", Check.MISSING, () -> y.zoneOf(0, 0));
            CHECK.fails("zoneOf(0, 999)", Check.MISSING, () -> y.zoneOf(0, 999));
        });
        CHECK.test("8 the zone of a place is that of the last range that contains it", () -> {
            FreightRater y = Check.rater("z1:0-9;z2:5-9;z3:9-9;z4:0-0");
            int[] due = {4, 1, 1, 1, 1, 2, 2, 2, 2, 3};
            for (int i = 0; i < due.length; i++) {
                int place = i;
                CHECK.is("zoneOf(0, " + i + ")", due[i], () -> y.zoneOf(0, place));
            }
        });
        CHECK.test("8 the last range that contains it, of twelve", () -> {
            FreightRater y = Check.rater("z1:5-5;z1:5-5;z1:5-5;z1:5-5;z1:5-5;z1:5-5;z1:5-5;z1:5-5;z1:5-5", "z1:5-5;z2:5-5;z3:5-5");
            CHECK.is("zoneOf(0, 5)", 3, () -> y.zoneOf(0, 5));
        });
    }

    private static void breaks() {
        FreightRater x = Check.rater("b1:3*30;b1:1*10;b1:5*50;b1:2*20;b1:4*40;b9:0*99;m1:11;m9:99");
        CHECK.test("9 breaks come in ascending order of their weights, in whatever order they were set", () -> {
            for (int i = 0; i < 5; i++) {
                int asked = i;
                CHECK.is("weight " + i, i + 1, () -> x.breakOf(0, 1, asked, false));
                CHECK.is("rate " + i, 10 * (i + 1), () -> x.breakOf(0, 1, asked, true));
            }
        });
        CHECK.test("9 i: the last break of five is allowed", () -> CHECK.is("breakOf(0, 1, 4, false)", 5, () -> x.breakOf(0, 1, 4, false)));
        CHECK.test("9 i: there is no such break", () -> {
            for (int i : new int[] {5, 6, -2, Integer.MAX_VALUE, Integer.MIN_VALUE}) {
                CHECK.fails("breakOf(0, 1, " + i + ", false)", Check.INDEX, () -> x.breakOf(0, 1, i, false));
                CHECK.fails("breakOf(0, 1, " + i + ", true)", Check.INDEX, () -> x.breakOf(0, 1, i, true));
            }
            CHECK.fails("a second one of zone 9", Check.INDEX, () -> x.breakOf(0, 9, 1, false));
        });
        CHECK.test("9 i: without breaks there is no first one", () -> {
            CHECK.fails("breakOf(0, 2, 0, false)", Check.INDEX, () -> x.breakOf(0, 2, 0, false));
            CHECK.fails("breakOf(0, 2, 0, true)", Check.INDEX, () -> x.breakOf(0, 2, 0, true));
        });
        CHECK.test("9 i: -1 is the number of breaks, and the minimum charge", () -> {
            CHECK.is("five", 5, () -> x.breakOf(0, 1, -1, false));
            CHECK.is("the minimum charge", 11, () -> x.breakOf(0, 1, -1, true));
            CHECK.is("none", 0, () -> x.breakOf(0, 2, -1, false));
            CHECK.is("no minimum charge", 0, () -> x.breakOf(0, 2, -1, true));
        });
        CHECK.test("9 zone: 1 and 9 are allowed", () -> {
            CHECK.is("breakOf(0, 1, 0, true)", 10, () -> x.breakOf(0, 1, 0, true));
            CHECK.is("breakOf(0, 9, 0, true)", 99, () -> x.breakOf(0, 9, 0, true));
            CHECK.is("breakOf(0, 9, -1, true)", 99, () -> x.breakOf(0, 9, -1, true));
        });
        CHECK.test("9 zone: there is no such one", () -> {
            for (int zone : Check.outside(1, 9)) {
                CHECK.fails("breakOf(0, " + zone + ", -1, false)", Check.INDEX, () -> x.breakOf(0, zone, -1, false));
            }
        });
        CHECK.test("9 version: there is no such one", () -> {
            for (int version : Check.outside(0, 0)) {
                CHECK.fails("breakOf(" + version + ", 1, -1, false)", Check.INDEX, () -> x.breakOf(version, 1, -1, false));
            }
        });
    }

    private static void accessorials() {
        FreightRater x = Check.rater("a0:0;a9:9999?h0!0;a4:99*?h1|h2&-h3!9;a5:50%!5");
        CHECK.test("10 accessorial: 0 and 9 are allowed", () -> {
            CHECK.is("accessorial(0, 0, 0)", 0, () -> x.accessorial(0, 0, 0));
            CHECK.is("accessorial(0, 9, 0)", 9999, () -> x.accessorial(0, 9, 0));
        });
        CHECK.test("10 accessorial: there is no such one", () -> {
            for (int a : Check.outside(0, 9)) {
                CHECK.fails("accessorial(0, " + a + ", 0)", Check.MISSING, () -> x.accessorial(0, a, 0));
            }
        });
        CHECK.test("10 accessorial: it is missing", () -> {
            CHECK.fails("never set", Check.MISSING, () -> x.accessorial(0, 1, 0));
            FreightRater y = Check.rater("a1:5;r1");
            CHECK.fails("removed", Check.MISSING, () -> y.accessorial(0, 1, 0));
        });
        CHECK.test("10 version: there is no such one", () -> {
            for (int version : Check.outside(0, 0)) {
                CHECK.fails("accessorial(" + version + ", 0, 0)", Check.INDEX, () -> x.accessorial(version, 0, 0));
            }
        });
        CHECK.test("10 what: 0 and 4 are allowed", () -> {
            CHECK.is("accessorial(0, 4, 0)", 99, () -> x.accessorial(0, 4, 0));
            CHECK.is("accessorial(0, 4, 4)", 9, () -> x.accessorial(0, 4, 4));
        });
        CHECK.test("10 what: out of range", () -> {
            for (int what : Check.outside(0, 4)) {
                CHECK.fails("accessorial(0, 0, " + what + ")", Check.ARGUMENT, () -> x.accessorial(0, 0, what));
            }
        });
        CHECK.test("10 the kind: 0 an amount, 1 per kilogram, 2 a percentage", () -> {
            CHECK.is("an amount", 0, () -> x.accessorial(0, 0, 1));
            CHECK.is("per kilogram", 1, () -> x.accessorial(0, 4, 1));
            CHECK.is("a percentage", 2, () -> x.accessorial(0, 5, 1));
        });
        CHECK.test("10 rows and tests: 0 without a condition", () -> {
            CHECK.is("no rows", 0, () -> x.accessorial(0, 0, 2));
            CHECK.is("no tests", 0, () -> x.accessorial(0, 0, 3));
        });
        CHECK.test("10 rows and tests: the shortest condition, and the longest one of each", () -> {
            CHECK.is("one row", 1, () -> x.accessorial(0, 9, 2));
            CHECK.is("one test", 1, () -> x.accessorial(0, 9, 3));
            CHECK.is("two rows", 2, () -> x.accessorial(0, 4, 2));
            CHECK.is("three tests", 3, () -> x.accessorial(0, 4, 3));
            String tests = "h0&h0&h0&h0&h0&h0&h0&h0&h0&h0&h0&h0&h0&h0&h0&h0&h0&h0&h0&h0&h0&h0&h0&h0&h0";
            FreightRater y = Check.rater("a0:1?" + tests, "a1:1?" + tests.replace('&', '|'));
            CHECK.is("25 tests in a row: rows", 1, () -> y.accessorial(0, 0, 2));
            CHECK.is("25 tests in a row: tests", 25, () -> y.accessorial(0, 0, 3));
            CHECK.is("25 rows: rows", 25, () -> y.accessorial(0, 1, 2));
            CHECK.is("25 rows: tests", 25, () -> y.accessorial(0, 1, 3));
        });
        CHECK.test("10 the accessorial that it excludes: -1 without one, the first, the last, itself", () -> {
            CHECK.is("none", -1, () -> x.accessorial(0, 0, 4));
            CHECK.is("the first", 0, () -> x.accessorial(0, 9, 4));
            CHECK.is("the last", 9, () -> x.accessorial(0, 4, 4));
            CHECK.is("itself", 5, () -> x.accessorial(0, 5, 4));
        });
        CHECK.test("10 exceptions: the version comes first, then the accessorial, then what", () -> {
            CHECK.fails("version and accessorial", Check.INDEX, () -> x.accessorial(1, 10, 0));
            CHECK.fails("version and what", Check.INDEX, () -> x.accessorial(-1, 0, 5));
            CHECK.fails("no such accessorial and what", Check.MISSING, () -> x.accessorial(0, 10, 5));
            CHECK.fails("missing accessorial and what", Check.MISSING, () -> x.accessorial(0, 1, -1));
        });
    }

    private static void bases() {
        FreightRater x = Check.rater("b1:0*99;b9:0*1;m2:5");
        CHECK.test("11 weight: 0 and 99999 are allowed", () -> {
            CHECK.is("base(0, 1, 0)", 0, () -> x.base(0, 1, 0));
            CHECK.is("base(0, 1, 99999)", 9899901, () -> x.base(0, 1, 99999));
        });
        CHECK.test("11 weight: out of range", () -> {
            for (int weight : Check.outside(0, 99999)) {
                CHECK.fails("base(0, 1, " + weight + ")", Check.ARGUMENT, () -> x.base(0, 1, weight));
            }
        });
        CHECK.test("11 zone: 1 and 9 are allowed", () -> {
            CHECK.is("base(0, 1, 2)", 198, () -> x.base(0, 1, 2));
            CHECK.is("base(0, 9, 2)", 2, () -> x.base(0, 9, 2));
        });
        CHECK.test("11 zone: there is no such one", () -> {
            for (int zone : Check.outside(1, 9)) {
                CHECK.fails("base(0, " + zone + ", 2)", Check.INDEX, () -> x.base(0, zone, 2));
            }
        });
        CHECK.test("11 version: there is no such one", () -> {
            for (int version : Check.outside(0, 0)) {
                CHECK.fails("base(" + version + ", 1, 2)", Check.INDEX, () -> x.base(version, 1, 2));
            }
        });
        CHECK.test("11 the zone has no breaks: never set, all removed, a minimum charge alone", () -> {
            CHECK.fails("never set", Check.MISSING, () -> x.base(0, 3, 2));
            CHECK.fails("a minimum charge alone", Check.MISSING, () -> x.base(0, 2, 2));
            FreightRater y = Check.rater("b1:5*5;b1:5*0");
            CHECK.fails("removed", Check.MISSING, () -> y.base(0, 1, 2));
        });
        CHECK.test("11 exceptions: version and zone come first, then the weight, then that there are no breaks", () -> {
            CHECK.fails("version and weight", Check.INDEX, () -> x.base(1, 1, -1));
            CHECK.fails("zone and weight", Check.INDEX, () -> x.base(0, 10, 100000));
            CHECK.fails("version and no breaks", Check.INDEX, () -> x.base(1, 3, 2));
            CHECK.fails("weight and no breaks", Check.ARGUMENT, () -> x.base(0, 3, 100000));
        });
    }

    private static void basesAtBreaks() {
        CHECK.test("11 one may pay for the weight of the break: one less than it, it, one more", () -> {
            FreightRater x = Check.rater("b1:10*5");
            CHECK.is("weight 0", 50, () -> x.base(0, 1, 0));
            CHECK.is("weight 9", 50, () -> x.base(0, 1, 9));
            CHECK.is("weight 10", 50, () -> x.base(0, 1, 10));
            CHECK.is("weight 11", 55, () -> x.base(0, 1, 11));
        });
        CHECK.test("11 the cheapest possibility: where a greater break becomes cheaper", () -> {
            FreightRater x = Check.rater("b1:0*10;b1:100*7");
            CHECK.is("weight 69", 690, () -> x.base(0, 1, 69));
            CHECK.is("weight 70", 700, () -> x.base(0, 1, 70));
            CHECK.is("weight 71", 700, () -> x.base(0, 1, 71));
            CHECK.is("weight 101", 707, () -> x.base(0, 1, 101));
        });
        CHECK.test("11 a lesser break may be the cheaper one for a great weight", () -> {
            FreightRater x = Check.rater("b1:0*5;b1:10*9");
            CHECK.is("weight 9", 45, () -> x.base(0, 1, 9));
            CHECK.is("weight 1000", 5000, () -> x.base(0, 1, 1000));
        });
        CHECK.test("11 the last of five breaks counts, too", () -> {
            FreightRater x = Check.rater("b1:0*9;b1:1*8;b1:2*7;b1:3*6;b1:4*1");
            CHECK.is("weight 1", 4, () -> x.base(0, 1, 1));
        });
        CHECK.test("11 the greatest break", () -> {
            FreightRater x = Check.rater("b1:9999*99");
            CHECK.is("weight 0", 9999 * 99, () -> x.base(0, 1, 0));
            CHECK.is("weight 10000", 10000 * 99, () -> x.base(0, 1, 10000));
        });
        CHECK.test("11 the minimum charge: one less than it, it, one more", () -> {
            FreightRater x = Check.rater("b1:0*1;m1:100");
            CHECK.is("weight 0", 100, () -> x.base(0, 1, 0));
            CHECK.is("weight 99", 100, () -> x.base(0, 1, 99));
            CHECK.is("weight 100", 100, () -> x.base(0, 1, 100));
            CHECK.is("weight 101", 101, () -> x.base(0, 1, 101));
        });
        CHECK.test("11 the minimum charge is that of the zone", () -> {
            FreightRater x = Check.rater("b1:0*1;b2:0*1;m2:9999");
            CHECK.is("zone 1", 5, () -> x.base(0, 1, 5));
            CHECK.is("zone 2", 9999, () -> x.base(0, 2, 5));
        });
    }
}
