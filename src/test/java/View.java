import java.util.LinkedHashMap;
import java.util.Map;

/** What can be read from a rater, as texts, for tests that two raters, or one before and after a call, are the same. */
final class View {
    interface Reading {
        String of(FreightRater rater);
    }

    private static final int[] PLACES = {0, 1, 9, 10, 20, 49, 50, 59, 60, 99, 100, 500, 998, 999};

    /** What can be undone and saved, by names; each reading takes few enough calls for an object that was filled before. */
    static final Map<String, Reading> STATE = new LinkedHashMap<>();
    /** What is neither undone nor restored. */
    static final Map<String, Reading> KEPT = new LinkedHashMap<>();

    static {
        STATE.put("versions", View::versions);
        STATE.put("zones", View::zones);
        STATE.put("breaks", View::breaks);
        STATE.put("accessorials", View::accessorials);
        STATE.put("shipments", View::shipments);
        STATE.put("ratings", View::ratings);
        STATE.put("accounts", View::accounts);
        STATE.put("steps", View::steps);
        KEPT.put("refusal", View::refusal);
        KEPT.put("impossible", View::impossible);
        KEPT.put("paper", View::paper);
        KEPT.put("input", View::input);
    }

    private final StringBuilder text = new StringBuilder();

    private View() {
    }

    /** Appends what the call answers or throws; says whether it answered. */
    private boolean put(Check.Call call) {
        try {
            double answer = call.run();
            text.append((long) answer == answer ? String.valueOf((long) answer) : String.valueOf(answer)).append(' ');
            return true;
        } catch (RuntimeException thrown) {
            text.append(thrown.getClass().getSimpleName()).append(' ');
            return false;
        }
    }

    /** All of a version but its first day. */
    static String version(FreightRater rater, int version) {
        View view = new View();
        for (int what = 1; what < 8; what++) {
            int asked = what;
            view.put(() -> rater.version(version, asked));
        }
        view.putZones(rater, version);
        view.putBreaks(rater, version);
        view.putAccessorials(rater, version);
        return view.text.toString();
    }

    private void putZones(FreightRater rater, int version) {
        for (int place : PLACES) {
            put(() -> rater.zoneOf(version, place));
        }
    }

    private void putBreaks(FreightRater rater, int version) {
        for (int zone = 1; zone < 10; zone++) {
            int asked = zone;
            put(() -> rater.breakOf(version, asked, -1, true));
            int count = rater.breakOf(version, zone, -1, false);
            for (int k = 0; k < count; k++) {
                int i = k;
                put(() -> rater.breakOf(version, asked, i, false));
                put(() -> rater.breakOf(version, asked, i, true));
            }
        }
    }

    private void putAccessorials(FreightRater rater, int version) {
        int set = rater.version(version, 6);
        for (int a = 0; a < 10; a++) {
            if ((set & 1 << a) == 0) {
                continue;
            }
            for (int what = 0; what < 5; what++) {
                int asked = a;
                int property = what;
                put(() -> rater.accessorial(version, asked, property));
            }
        }
    }

    private static int versionCount(FreightRater rater) {
        int count = 0;
        View view = new View();
        boolean isThere = true;
        while (isThere) {
            int asked = count;
            isThere = view.put(() -> rater.version(asked, 0));
            count += isThere ? 1 : 0;
        }
        return count;
    }

    static String versions(FreightRater rater) {
        View view = new View();
        int count = versionCount(rater);
        for (int version = 0; version <= count; version++) {
            for (int what = 0; what < 8; what++) {
                int asked = version;
                int property = what;
                view.put(() -> rater.version(asked, property));
            }
        }
        return view.text.toString();
    }

    static String zones(FreightRater rater) {
        View view = new View();
        int count = versionCount(rater);
        for (int version = 0; version < count; version++) {
            view.putZones(rater, version);
        }
        return view.text.toString();
    }

    static String breaks(FreightRater rater) {
        View view = new View();
        int count = versionCount(rater);
        for (int version = 0; version < count; version++) {
            view.putBreaks(rater, version);
        }
        return view.text.toString();
    }

    static String accessorials(FreightRater rater) {
        View view = new View();
        int count = versionCount(rater);
        for (int version = 0; version < count; version++) {
            view.putAccessorials(rater, version);
        }
        return view.text.toString();
    }

    static String shipments(FreightRater rater) {
        View view = new View();
        boolean isThere = true;
        for (int s = 0; isThere; s++) {
            for (int what = 0; what < 9; what++) {
                int shipment = s;
                int asked = what;
                isThere = view.put(() -> rater.shipment(shipment, asked));
            }
        }
        return view.text.toString();
    }

    /** What the groups cost, or why they are refused; it keeps nothing for refusal. */
    static String ratings(FreightRater rater) {
        View view = new View();
        for (int group : new int[] {1, 2, 3, 4, 5, 8, 15, 16, 512}) {
            view.put(() -> rater.refuses(group));
            for (int what = 0; what < 10; what++) {
                int asked = what;
                view.put(() -> rater.rating(group, asked));
            }
        }
        return view.text.toString();
    }

    static String accounts(FreightRater rater) {
        View view = new View();
        for (int i = 0; i < 7; i++) {
            int asked = i;
            view.put(() -> rater.account(asked));
        }
        for (int i = 0; i < 4; i++) {
            int asked = i;
            view.put(() -> rater.rebate(asked));
        }
        return view.text.toString();
    }

    /** Which of the steps that the tests set are there, found by removing them. */
    static String steps(FreightRater rater) {
        View view = new View();
        for (int threshold : new int[] {0, 10, 20, 30, 40, 50, 60, 1000, Integer.MAX_VALUE}) {
            view.put(() -> rater.setRebate(threshold, 0));
        }
        return view.text.toString();
    }

    static String refusal(FreightRater rater) {
        View view = new View();
        view.put(() -> rater.refusal(false));
        view.put(() -> rater.refusal(true));
        return view.text.toString();
    }

    static String impossible(FreightRater rater) {
        View view = new View();
        view.put(() -> rater.impossible());
        return view.text.toString();
    }

    static String paper(FreightRater rater) {
        View view = new View();
        boolean isThere = true;
        for (int i = 0; isThere; i++) {
            int at = i;
            isThere = view.put(() -> rater.paper(at));
        }
        return view.text.toString();
    }

    /** How long the input is, and what comes of it as a text for version 0. */
    static String input(FreightRater rater) {
        View view = new View();
        view.put(() -> rater.feed('0'));
        view.put(() -> rater.amend(0));
        for (int what = 1; what < 8; what++) {
            int asked = what;
            view.put(() -> rater.version(0, asked));
        }
        return view.text.toString();
    }
}
