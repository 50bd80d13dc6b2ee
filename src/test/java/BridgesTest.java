/** Promises 11 (bridge), 12 (holds), 13 (cross), 14 (back), 20 (record). */
public final class BridgesTest {
    private static final Check CHECK = new Check("BridgesTest");

    public static void main(String[] args) {
        bridgesHaveTheirBounds();
        twentyBridgesAtMost();
        bridgesHoldOneWayOnTheirDays();
        crossingNamesTheOwnerThere();
        crossingNeedsABridgeToday();
        spannedNamesCrossInTheirSpanOnly();
        theStruckOutDoNotCross();
        wrongCrossingsAreNotOnRecord();
        turningBackTellsTheHead();
        turningBackNeedsACountingReason();
        turningBackNeedsTwoHands();
        theStruckOutAreNotTurnedBack();
        wrongTurningsAreNotOnRecord();
        theRecordTellsAll();
        twoHundredEntriesAtMost();
        CHECK.end();
    }

    /** Houses 0 LASTING (seed 10), 1 SPANNED by 5 days (seed 20), 2 ONCE (seed 30); three people. */
    private static OtherNames withHouses() {
        OtherNames x = new OtherNames();
        for (int p = 0; p < 3; p++) {
            x.person(0, 0, 0, p);
        }
        x.house(0, 1, 10, 255, 0);
        x.house(1, 5, 20, 4, 0);
        x.house(2, 1, 30, 129, 0);
        return x;
    }

    private static void bridgesHaveTheirBounds() {
        OtherNames x = withHouses();
        CHECK.due("bridge(0, 0, 0, 1)", x.bridge(0, 0, 0, 1), false);
        CHECK.due("bridge(0, 3, 0, 1)", x.bridge(0, 3, 0, 1), false);
        CHECK.due("bridge(3, 0, 0, 1)", x.bridge(3, 0, 0, 1), false);
        CHECK.due("bridge(-1, 0, 0, 1)", x.bridge(-1, 0, 0, 1), false);
        CHECK.due("bridge(0, -1, 0, 1)", x.bridge(0, -1, 0, 1), false);
        CHECK.due("bridge(0, 1, -1, 1)", x.bridge(0, 1, -1, 1), false);
        CHECK.due("bridge(0, 1, -2, -1)", x.bridge(0, 1, -2, -1), false);
        CHECK.due("bridge(0, 1, 2, 1)", x.bridge(0, 1, 2, 1), false);
        CHECK.due("bridge(0, 1, 0, 3001)", x.bridge(0, 1, 0, 3001), false);
        CHECK.due("bridge(0, 1, 3001, 3001)", x.bridge(0, 1, 3001, 3001), false);
        for (int wild : Check.WILD) {
            CHECK.due("bridge from " + wild, x.bridge(0, 1, wild, 3000), false);
            CHECK.due("bridge to " + wild, x.bridge(0, 1, 0, wild), false);
        }
        CHECK.due("tell(5)", x.tell(5), 0);
        CHECK.due("bridge(0, 1, 0, 0)", x.bridge(0, 1, 0, 0), true);
        CHECK.due("bridge(0, 1, 3000, 3000)", x.bridge(0, 1, 3000, 3000), true);
        x.day(100);
        CHECK.due("bridge(1, 0, 1, 2) in days gone by", x.bridge(1, 0, 1, 2), true);
        CHECK.due("tell(5)", x.tell(5), 3);
    }

    private static void twentyBridgesAtMost() {
        OtherNames x = withHouses();
        for (int i = 0; i < 20; i++) {
            CHECK.due("bridge " + i, x.bridge(0, 1, i, i), true);
        }
        CHECK.due("bridge 20", x.bridge(0, 2, 0, 1), false);
        CHECK.due("holds(0, 1, 19)", x.holds(0, 1, 19), 1);
        CHECK.due("holds(0, 2, 0)", x.holds(0, 2, 0), 0);
        CHECK.due("tell(5)", x.tell(5), 20);
    }

    private static void bridgesHoldOneWayOnTheirDays() {
        OtherNames x = withHouses();
        x.bridge(0, 1, 5, 7);
        x.bridge(0, 1, 10, 10);
        x.bridge(1, 2, 0, 3000);
        int[][] dues = {{4, 0}, {5, 1}, {6, 1}, {7, 1}, {8, 0}, {9, 0}, {10, 1}, {11, 0}, {0, 0}, {3000, 0}};
        for (int[] due : dues) {
            CHECK.due("holds(0, 1) " + due[0], x.holds(0, 1, due[0]), due[1]);
            CHECK.due("holds(1, 0) " + due[0], x.holds(1, 0, due[0]), 0);
            CHECK.due("holds(1, 2) " + due[0], x.holds(1, 2, due[0]), 1);
            CHECK.due("holds(0, 2) " + due[0], x.holds(0, 2, due[0]), 0);
        }
        CHECK.due("holds(0, 0, 5)", x.holds(0, 0, 5), -1);
        CHECK.due("holds(0, 3, 5)", x.holds(0, 3, 5), -1);
        CHECK.due("holds(3, 0, 5)", x.holds(3, 0, 5), -1);
        CHECK.due("holds(-1, 0, 5)", x.holds(-1, 0, 5), -1);
        CHECK.due("holds(1, 2, -1)", x.holds(1, 2, -1), -1);
        CHECK.due("holds(1, 2, 3001)", x.holds(1, 2, 3001), -1);
        for (int wild : Check.WILD) {
            CHECK.due("holds on " + wild, x.holds(1, 2, wild), -1);
            CHECK.due("holds from " + wild, x.holds(wild, 2, 0), -1);
            CHECK.due("holds to " + wild, x.holds(1, wild, 0), -1);
        }
    }

    private static void crossingNamesTheOwnerThere() {
        OtherNames x = withHouses();
        x.bridge(0, 1, 0, 3000);
        x.bridge(0, 2, 0, 3000);
        x.bridge(2, 0, 0, 3000);
        x.name(0, 0);
        x.name(0, 1);
        CHECK.due("cross(0, 1, 20, 0)", x.cross(0, 1, 20, 0), 20);
        CHECK.due("given(2, 2)", x.given(2, 2), 1);
        CHECK.due("cross(0, 1, 20, 9)", x.cross(0, 1, 20, 9), 20);
        CHECK.due("tell(3)", x.tell(3), 3);
        CHECK.due("cross(0, 2, 20, 0)", x.cross(0, 2, 20, 0), 30);
        CHECK.due("cross(0, 2, 20, 0)", x.cross(0, 2, 20, 0), 60);
        CHECK.due("cross(2, 0, 30, 0)", x.cross(2, 0, 30, 0), 20);
        x.one(2, 1);
        CHECK.due("cross(0, 2, 20, 0)", x.cross(0, 2, 20, 0), 90);
        CHECK.due("given(5, 2)", x.given(5, 2), 2);
        CHECK.due("cross(0, 1, 20, 0)", x.cross(0, 1, 20, 0), 20);
        x.day(5);
        CHECK.due("cross in the next span", x.cross(0, 1, 20, 0), 40);
        CHECK.due("given(6, 2)", x.given(6, 2), 2);
        CHECK.due("a ONCE name of an earlier day", x.cross(2, 0, 30, 0), 20);
        CHECK.due("tell(4)", x.tell(4), 9);
    }

    private static void crossingNeedsABridgeToday() {
        OtherNames x = withHouses();
        x.bridge(0, 1, 2, 3);
        x.name(0, 0);
        CHECK.due("the day before", x.cross(0, 1, 10, 0), -1);
        x.day(2);
        CHECK.due("on the first day", x.cross(0, 1, 10, 0), 20);
        CHECK.due("the other way", x.cross(1, 0, 20, 0), -1);
        x.day(3);
        CHECK.due("on the last day", x.cross(0, 1, 10, 0), 20);
        CHECK.due("a name that was not given there", x.cross(0, 1, 20, 0), -1);
        x.day(4);
        CHECK.due("the day after", x.cross(0, 1, 10, 0), -1);
        int[] dues = {2, 0, 2, 0, 2, 2};
        for (int i = 0; i < dues.length; i++) {
            CHECK.due("record(i, 0) " + i, x.record(i, 0), dues[i]);
        }
        CHECK.due("tell(3)", x.tell(3), 2);
    }

    private static void spannedNamesCrossInTheirSpanOnly() {
        OtherNames x = withHouses();
        x.bridge(1, 0, 0, 3000);
        x.name(1, 0);
        x.day(4);
        CHECK.due("in its span", x.cross(1, 0, 20, 0), 10);
        x.day(5);
        CHECK.due("after its span", x.cross(1, 0, 20, 0), -1);
        CHECK.due("name(1, 0)", x.name(1, 0), 40);
        CHECK.due("with the new name", x.cross(1, 0, 40, 0), 10);
        CHECK.due("with the old name", x.cross(1, 0, 20, 0), -1);
    }

    private static void theStruckOutDoNotCross() {
        OtherNames x = withHouses();
        x.bridge(0, 1, 0, 3000);
        x.name(0, 0);
        x.one(1, 0);
        x.strike(1);
        CHECK.due("cross, struck out", x.cross(0, 1, 10, 0), -1);
        x.part(0);
        CHECK.due("cross, struck out and parted", x.cross(0, 1, 10, 0), -1);
        CHECK.due("record(1, 0)", x.record(1, 0), 2);
        CHECK.due("tell(11)", x.tell(11), 0);
    }

    private static void wrongCrossingsAreNotOnRecord() {
        OtherNames x = withHouses();
        x.bridge(0, 1, 0, 3000);
        x.name(0, 0);
        CHECK.due("cross(0, 3, 10, 0)", x.cross(0, 3, 10, 0), -1);
        CHECK.due("cross(3, 0, 10, 0)", x.cross(3, 0, 10, 0), -1);
        CHECK.due("cross(-1, 0, 10, 0)", x.cross(-1, 0, 10, 0), -1);
        CHECK.due("cross(0, -1, 10, 0)", x.cross(0, -1, 10, 0), -1);
        CHECK.due("cross(0, 1, 10, -1)", x.cross(0, 1, 10, -1), -1);
        CHECK.due("cross(0, 1, 10, 10)", x.cross(0, 1, 10, 10), -1);
        CHECK.due("tell(4)", x.tell(4), 0);
        CHECK.due("tell(3)", x.tell(3), 1);
        CHECK.due("cross(0, 0, 10, 9)", x.cross(0, 0, 10, 9), -1);
        CHECK.due("cross(0, 1, -7, 9)", x.cross(0, 1, -7, 9), -1);
        CHECK.due("tell(4)", x.tell(4), 2);
        CHECK.due("record(1, 2)", x.record(1, 2), -7);
    }

    private static void turningBackTellsTheHead() {
        OtherNames x = withHouses();
        x.name(0, 0);
        x.name(1, 0);
        x.name(2, 1);
        CHECK.due("back(0, 10)", x.back(0, 10, 0, 0, 9), 0);
        CHECK.due("back(2, 30)", x.back(2, 30, 0, 9, 0), 1);
        x.one(2, 1);
        x.one(1, 0);
        CHECK.due("back(2, 30), one", x.back(2, 30, 0, 1, 2), 2);
        CHECK.due("back(0, 10), still alone", x.back(0, 10, 0, 1, 2), 0);
        x.part(1);
        CHECK.due("back(2, 30), parted", x.back(2, 30, 0, 1, 2), 1);
        x.day(50);
        CHECK.due("back(1, 20), a span long gone", x.back(1, 20, 2, 1, 2), 0);
        CHECK.due("back(0, 20), not given there", x.back(0, 20, 0, 1, 2), -1);
        CHECK.due("back(0, -1), no name", x.back(0, -1, 0, 1, 2), -1);
        CHECK.due("tell(4)", x.tell(4), 8);
        CHECK.due("record(5, 0)", x.record(5, 0), 1);
        CHECK.due("record(6, 0)", x.record(6, 0), 3);
    }

    private static void turningBackNeedsACountingReason() {
        OtherNames x = withHouses();
        x.name(0, 0);
        x.name(1, 0);
        x.name(2, 0);
        for (int reason = 0; reason < 8; reason++) {
            CHECK.due("house 0, reason " + reason, x.back(0, 10, reason, 0, 1), 0);
            CHECK.due("house 1, reason " + reason, x.back(1, 20, reason, 0, 1), reason == 2 ? 0 : -1);
            boolean counts = reason == 0 || reason == 7;
            CHECK.due("house 2, reason " + reason, x.back(2, 30, reason, 0, 1), counts ? 0 : -1);
        }
        CHECK.due("tell(4)", x.tell(4), 24);
    }

    private static void turningBackNeedsTwoHands() {
        OtherNames x = withHouses();
        x.name(0, 0);
        for (int hand = 0; hand < 10; hand++) {
            CHECK.due("the same hand " + hand, x.back(0, 10, 0, hand, hand), -1);
        }
        CHECK.due("record(9, 0)", x.record(9, 0), 3);
        CHECK.due("record(9, 3)", x.record(9, 3), 9);
        CHECK.due("record(9, 4)", x.record(9, 4), 9);
        CHECK.due("tell(4)", x.tell(4), 10);
    }

    private static void theStruckOutAreNotTurnedBack() {
        OtherNames x = withHouses();
        x.name(0, 0);
        x.name(0, 1);
        x.strike(0);
        CHECK.due("back, struck out", x.back(0, 10, 0, 0, 1), -1);
        CHECK.due("record(0, 0)", x.record(0, 0), 3);
        CHECK.due("back, another", x.back(0, 20, 0, 0, 1), 1);
        x.one(1, 0);
        CHECK.due("back, one with it", x.back(0, 20, 0, 0, 1), -1);
        x.part(0);
        CHECK.due("back, parted from it", x.back(0, 20, 0, 0, 1), -1);
    }

    private static void wrongTurningsAreNotOnRecord() {
        OtherNames x = withHouses();
        x.name(0, 0);
        CHECK.due("house 3", x.back(3, 10, 0, 0, 1), -1);
        CHECK.due("house -1", x.back(-1, 10, 0, 0, 1), -1);
        CHECK.due("reason 8", x.back(0, 10, 8, 0, 1), -1);
        CHECK.due("reason -1", x.back(0, 10, -1, 0, 1), -1);
        CHECK.due("reason 32", x.back(0, 10, 32, 0, 1), -1);
        CHECK.due("first hand 10", x.back(0, 10, 0, 10, 1), -1);
        CHECK.due("first hand -1", x.back(0, 10, 0, -1, 1), -1);
        CHECK.due("second hand 10", x.back(0, 10, 0, 0, 10), -1);
        CHECK.due("second hand -1", x.back(0, 10, 0, 0, -1), -1);
        CHECK.due("tell(4)", x.tell(4), 0);
    }

    private static void theRecordTellsAll() {
        OtherNames x = withHouses();
        x.bridge(0, 1, 0, 3000);
        x.name(0, 0);
        x.name(2, 0);
        x.day(6);
        x.cross(0, 1, 10, 8);
        x.day(8);
        x.back(2, 30, 0, 7, 3);
        x.cross(2, 1, 30, 1);
        x.day(9);
        x.back(2, 31, 5, 2, 6);
        int[][] dues = {{0, 0, 10, 8, -1, 6}, {1, 2, 30, 7, 3, 8}, {2, 2, 30, 1, -1, 8}, {3, 2, 31, 2, 6, 9}};
        for (int i = 0; i < dues.length; i++) {
            for (int what = 0; what < 6; what++) {
                CHECK.due("record(" + i + ", " + what + ")", x.record(i, what), dues[i][what]);
            }
            CHECK.due("record(i, 6)", x.record(i, 6), -1);
            CHECK.due("record(i, -1)", x.record(i, -1), -1);
        }
        CHECK.due("record(4, 0)", x.record(4, 0), -1);
        CHECK.due("record(-1, 0)", x.record(-1, 0), -1);
        CHECK.due("record(-1, 6)", x.record(-1, 6), -1);
        for (int wild : Check.WILD) {
            CHECK.due("record(" + wild + ", 0)", x.record(wild, 0), -1);
            CHECK.due("record(0, " + wild + ")", x.record(0, wild), -1);
        }
    }

    private static void twoHundredEntriesAtMost() {
        OtherNames x = withHouses();
        x.bridge(0, 1, 0, 3000);
        x.name(0, 0);
        for (int i = 0; i < 199; i++) {
            CHECK.due("back " + i, x.back(0, 10, 0, 0, 1), 0);
        }
        CHECK.due("the 200th is a refused one", x.cross(0, 1, 11, 0), -1);
        CHECK.due("tell(4)", x.tell(4), 200);
        CHECK.due("the 201st, turning back", x.back(0, 10, 0, 0, 1), -1);
        CHECK.due("the 201st, crossing", x.cross(0, 1, 10, 0), -1);
        CHECK.due("the 201st, refused", x.cross(0, 1, 11, 0), -1);
        CHECK.due("tell(4)", x.tell(4), 200);
        CHECK.due("tell(3)", x.tell(3), 1);
        CHECK.due("record(199, 0)", x.record(199, 0), 2);
        CHECK.due("record(200, 0)", x.record(200, 0), -1);
    }
}
