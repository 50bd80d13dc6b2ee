/** Promises 9 (name), 10 (leads), 21 (given). */
public final class NamesTest {
    private static final Check CHECK = new Check("NamesTest");

    public static void main(String[] args) {
        namesAreSeedTimesK();
        lastingNamesLast();
        spannedNamesChangeWithTheSpan();
        onceNamesAreAlwaysNew();
        namesLeadToTheFirstOfTheHead();
        namesLeadOnlyWithinTheSpan();
        theOwnerIsTheHead();
        thePartedIsNamedByItsOwnNames();
        theStruckOutAreNotNamed();
        twoHundredNamesAtMost();
        wrongOnesAreNotNamed();
        givenTellsAllOfAName();
        CHECK.end();
    }

    private static OtherNames withPeople(int count) {
        OtherNames x = new OtherNames();
        for (int p = 0; p < count; p++) {
            x.person(0, 0, 0, 0);
        }
        return x;
    }

    private static void namesAreSeedTimesK() {
        OtherNames x = withPeople(24);
        x.house(0, 1, 9972, 0, 0);
        x.house(0, 1, 4987, 0, 0);
        x.house(2, 1, 50, 0, 0);
        for (int p = 0; p < 24; p++) {
            CHECK.due("name(0, p) " + p, x.name(0, p), 9972 - p);
            CHECK.due("name(1, p) " + p, x.name(1, p), (int) (4987L * (p + 1) % 9973));
        }
        for (int k = 1; k <= 152; k++) {
            CHECK.due("name(2, 0) " + k, x.name(2, 0), k * 50);
        }
        OtherNames y = withPeople(1);
        y.house(2, 1, 9000, 0, 0);
        for (int k = 1; k <= 200; k++) {
            CHECK.due("name, k " + k, y.name(0, 0), (int) (9000L * k % 9973));
        }
    }

    private static void lastingNamesLast() {
        OtherNames x = withPeople(2);
        x.house(0, 1, 5, 0, 0);
        CHECK.due("name(0, 1)", x.name(0, 1), 5);
        x.day(3000);
        CHECK.due("name(0, 1)", x.name(0, 1), 5);
        CHECK.due("name(0, 0)", x.name(0, 0), 10);
        CHECK.due("given(1, 4)", x.given(1, 4), 0);
        CHECK.due("tell(3)", x.tell(3), 2);
    }

    private static void spannedNamesChangeWithTheSpan() {
        OtherNames x = withPeople(2);
        x.house(1, 7, 3, 0, 0);
        CHECK.due("name on day 0", x.name(0, 0), 3);
        x.day(6);
        CHECK.due("name on day 6", x.name(0, 0), 3);
        CHECK.due("another on day 6", x.name(0, 1), 6);
        x.day(7);
        CHECK.due("name on day 7", x.name(0, 0), 9);
        x.day(13);
        CHECK.due("name on day 13", x.name(0, 0), 9);
        x.day(14);
        CHECK.due("name on day 14", x.name(0, 0), 12);
        CHECK.due("given(1, 4)", x.given(1, 4), 0);
        CHECK.due("given(2, 4)", x.given(2, 4), 1);
        CHECK.due("given(3, 4)", x.given(3, 4), 2);
        x.house(1, 365, 3, 0, 0);
        x.day(3000);
        x.name(1, 0);
        CHECK.due("given(4, 4)", x.given(4, 4), 8);
    }

    private static void onceNamesAreAlwaysNew() {
        OtherNames x = withPeople(2);
        x.house(2, 100, 11, 0, 0);
        CHECK.due("name", x.name(0, 0), 11);
        CHECK.due("name", x.name(0, 0), 22);
        CHECK.due("name", x.name(0, 1), 33);
        x.one(0, 1);
        CHECK.due("leads(0, 22)", x.leads(0, 22), 22);
        CHECK.due("leads(0, 33)", x.leads(0, 33), 33);
        for (int i = 0; i < 3; i++) {
            CHECK.due("given(i, 4) " + i, x.given(i, 4), i + 1);
        }
    }

    private static void namesLeadToTheFirstOfTheHead() {
        OtherNames x = withPeople(4);
        x.house(0, 1, 1, 0, 0);
        x.house(0, 1, 2, 0, 0);
        for (int p = 3; p >= 0; p--) {
            CHECK.due("name(0, p) " + p, x.name(0, p), 4 - p);
        }
        x.name(1, 0);
        x.name(1, 3);
        x.one(1, 2);
        CHECK.due("leads(0, 3)", x.leads(0, 3), 2);
        CHECK.due("name(0, 1)", x.name(0, 1), 2);
        x.one(0, 1);
        CHECK.due("leads(0, 4)", x.leads(0, 4), 2);
        CHECK.due("name(0, 0)", x.name(0, 0), 2);
        CHECK.due("leads(1, 2)", x.leads(1, 2), 2);
        CHECK.due("leads(1, 4)", x.leads(1, 4), 4);
        x.one(3, 0);
        CHECK.due("leads(0, 4)", x.leads(0, 4), 1);
        CHECK.due("leads(1, 4)", x.leads(1, 4), 2);
        x.part(1);
        CHECK.due("leads(0, 3)", x.leads(0, 3), 2);
        CHECK.due("leads(0, 4)", x.leads(0, 4), 1);
        CHECK.due("leads(0, 5)", x.leads(0, 5), -1);
        CHECK.due("leads(1, 1)", x.leads(1, 1), -1);
        CHECK.due("tell(3)", x.tell(3), 6);
    }

    private static void namesLeadOnlyWithinTheSpan() {
        OtherNames x = withPeople(2);
        x.house(1, 10, 1, 0, 0);
        x.name(0, 0);
        x.day(10);
        x.name(0, 0);
        x.name(0, 1);
        x.one(1, 0);
        CHECK.due("leads(0, 1)", x.leads(0, 1), 1);
        CHECK.due("leads(0, 2)", x.leads(0, 2), 2);
        CHECK.due("leads(0, 3)", x.leads(0, 3), 2);
    }

    private static void theOwnerIsTheHead() {
        OtherNames x = withPeople(3);
        x.house(0, 1, 1, 0, 0);
        x.one(1, 0);
        x.one(2, 1);
        CHECK.due("name(0, 0)", x.name(0, 0), 1);
        CHECK.due("given(0, 2)", x.given(0, 2), 2);
        x.part(0);
        CHECK.due("given(0, 2)", x.given(0, 2), 2);
        CHECK.due("name(0, 0)", x.name(0, 0), 2);
        CHECK.due("given(1, 2)", x.given(1, 2), 0);
    }

    private static void thePartedIsNamedByItsOwnNames() {
        OtherNames x = withPeople(2);
        x.house(0, 1, 1, 0, 0);
        x.name(0, 0);
        x.name(0, 1);
        x.one(0, 1);
        CHECK.due("name(0, 1), one", x.name(0, 1), 1);
        x.part(1);
        CHECK.due("name(0, 1), parted", x.name(0, 1), 2);
    }

    private static void theStruckOutAreNotNamed() {
        OtherNames x = withPeople(2);
        x.house(0, 1, 1, 0, 0);
        x.name(0, 0);
        x.one(1, 0);
        x.strike(1);
        CHECK.due("name(0, 0)", x.name(0, 0), -1);
        CHECK.due("name(0, 1)", x.name(0, 1), -1);
        CHECK.due("leads(0, 1)", x.leads(0, 1), 1);
        CHECK.due("tell(3)", x.tell(3), 1);
        CHECK.due("tell(10)", x.tell(10), 1);
        CHECK.due("given(0, 2)", x.given(0, 2), 0);
    }

    private static void twoHundredNamesAtMost() {
        OtherNames x = withPeople(2);
        x.house(0, 1, 3, 0, 0);
        x.house(2, 1, 1, 0, 0);
        CHECK.due("name(0, 0)", x.name(0, 0), 3);
        for (int k = 1; k <= 199; k++) {
            CHECK.due("name(1, 0) " + k, x.name(1, 0), k);
        }
        CHECK.due("name(1, 0), the 201st", x.name(1, 0), -1);
        CHECK.due("name(0, 1), the 201st", x.name(0, 1), -1);
        CHECK.due("name(0, 0), no new one", x.name(0, 0), 3);
        CHECK.due("tell(3)", x.tell(3), 200);
        CHECK.due("tell(10)", x.tell(10), 1);
        CHECK.due("tell(11)", x.tell(11), 199);
        CHECK.due("given(199, 1)", x.given(199, 1), 199);
        CHECK.due("given(200, 1)", x.given(200, 1), -1);
        x.bridge(1, 0, 0, 0);
        x.bridge(0, 1, 0, 0);
        CHECK.due("cross to a name that is there", x.cross(1, 0, 5, 0), 3);
        CHECK.due("cross to a name that would be the 201st", x.cross(0, 1, 3, 0), -1);
        CHECK.due("record(1, 0)", x.record(1, 0), 2);
        CHECK.due("tell(3)", x.tell(3), 200);
    }

    private static void wrongOnesAreNotNamed() {
        OtherNames x = withPeople(1);
        x.house(0, 1, 1, 0, 0);
        CHECK.due("name(1, 0)", x.name(1, 0), -1);
        CHECK.due("name(0, 1)", x.name(0, 1), -1);
        for (int wild : Check.WILD) {
            CHECK.due("name(" + wild + ", 0)", x.name(wild, 0), -1);
            CHECK.due("name(0, " + wild + ")", x.name(0, wild), -1);
            CHECK.due("leads(" + wild + ", 1)", x.leads(wild, 1), -1);
            CHECK.due("leads(0, " + wild + ")", x.leads(0, wild), -1);
        }
        CHECK.due("leads(0, 1), not given yet", x.leads(0, 1), -1);
        CHECK.due("tell(3)", x.tell(3), 0);
    }

    private static void givenTellsAllOfAName() {
        OtherNames x = withPeople(2);
        x.house(0, 1, 1, 0, 0);
        x.house(1, 4, 20, 0, 0);
        x.day(9);
        x.name(1, 1);
        int[] dues = {1, 20, 1, 9, 2};
        for (int what = 0; what < 5; what++) {
            CHECK.due("given(0, what) " + what, x.given(0, what), dues[what]);
        }
        CHECK.due("given(0, 5)", x.given(0, 5), -1);
        CHECK.due("given(0, -1)", x.given(0, -1), -1);
        CHECK.due("given(1, 0)", x.given(1, 0), -1);
        CHECK.due("given(-1, 0)", x.given(-1, 0), -1);
        CHECK.due("given(1, -1)", x.given(1, -1), -1);
        for (int wild : Check.WILD) {
            CHECK.due("given(" + wild + ", 0)", x.given(wild, 0), -1);
            CHECK.due("given(0, " + wild + ")", x.given(0, wild), -1);
        }
    }
}
