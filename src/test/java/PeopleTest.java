/** Promises 2 (person), 3 (mark), 6 (one), 7 (part), 8 (strike), 22 (look). */
public final class PeopleTest {
    private static final Check CHECK = new Check("PeopleTest");

    public static void main(String[] args) {
        peopleAreNumberedUpToTwentyFour();
        marksHaveTheirBounds();
        marksCanBeChanged();
        onlyHeadsBecomeOne();
        headsAreFoundThroughLongChains();
        partingTakesAlongThoseWithin();
        strikingTakesAllOfTheHead();
        beingStruckOutIsCaughtForEver();
        strikingAfterPartingLeavesTheOthers();
        namesOwnedAreThoseGivenToTheHeadOfThatTime();
        nobodyElseIsLookedAt();
        CHECK.end();
    }

    private static OtherNames withPeople(int count) {
        OtherNames x = new OtherNames();
        for (int p = 0; p < count; p++) {
            x.person(p % 8, p / 8, 0, 7);
        }
        return x;
    }

    private static void peopleAreNumberedUpToTwentyFour() {
        OtherNames x = new OtherNames();
        for (int p = 0; p < 24; p++) {
            CHECK.due("person " + p, x.person(p % 8, 1, 2, 3), p);
        }
        CHECK.due("person 24", x.person(0, 0, 0, 0), -1);
        CHECK.due("tell(0)", x.tell(0), 24);
        CHECK.due("look(23, 4)", x.look(23, 4), 7);
        CHECK.due("look(24, 0)", x.look(24, 0), -1);
    }

    private static void marksHaveTheirBounds() {
        OtherNames x = new OtherNames();
        int[] wrongs = {-1, 8, Integer.MIN_VALUE, Integer.MAX_VALUE};
        for (int n : wrongs) {
            CHECK.due("person(n, 0, 0, 0) " + n, x.person(n, 0, 0, 0), -1);
            CHECK.due("person(0, n, 0, 0) " + n, x.person(0, n, 0, 0), -1);
            CHECK.due("person(0, 0, n, 0) " + n, x.person(0, 0, n, 0), -1);
            CHECK.due("person(0, 0, 0, n) " + n, x.person(0, 0, 0, n), -1);
        }
        CHECK.due("tell(0)", x.tell(0), 0);
        CHECK.due("person(0, 7, 0, 7)", x.person(0, 7, 0, 7), 0);
        CHECK.due("person(7, 0, 7, 0)", x.person(7, 0, 7, 0), 1);
        for (int m = 0; m < 4; m++) {
            CHECK.due("look(0, 4 + " + m + ")", x.look(0, 4 + m), m % 2 == 0 ? 0 : 7);
            CHECK.due("look(1, 4 + " + m + ")", x.look(1, 4 + m), m % 2 == 0 ? 7 : 0);
        }
    }

    private static void marksCanBeChanged() {
        OtherNames x = withPeople(2);
        for (int m = 0; m < 4; m++) {
            CHECK.due("mark(1, m, m + 2) " + m, x.mark(1, m, m + 2), true);
        }
        for (int m = 0; m < 4; m++) {
            CHECK.due("look(1, 4 + m) " + m, x.look(1, 4 + m), m + 2);
        }
        CHECK.due("look(0, 7)", x.look(0, 7), 7);
        CHECK.due("mark(0, 0, 7)", x.mark(0, 0, 7), true);
        CHECK.due("mark(0, 3, 0)", x.mark(0, 3, 0), true);
        CHECK.due("mark(2, 0, 0)", x.mark(2, 0, 0), false);
        CHECK.due("mark(-1, 0, 0)", x.mark(-1, 0, 0), false);
        CHECK.due("mark(0, 4, 0)", x.mark(0, 4, 0), false);
        CHECK.due("mark(0, 5, 1)", x.mark(0, 5, 1), false);
        CHECK.due("mark(0, -1, 0)", x.mark(0, -1, 0), false);
        CHECK.due("mark(0, 0, 8)", x.mark(0, 0, 8), false);
        CHECK.due("mark(0, 0, -1)", x.mark(0, 0, -1), false);
        CHECK.due("look(0, 4)", x.look(0, 4), 7);
        CHECK.due("look(0, 2)", x.look(0, 2), 0);
        CHECK.due("strike(0)", x.strike(0), true);
        CHECK.due("mark(0, 0, 1) of one struck out", x.mark(0, 0, 1), true);
        CHECK.due("look(0, 4)", x.look(0, 4), 1);
    }

    private static void onlyHeadsBecomeOne() {
        OtherNames x = withPeople(4);
        CHECK.due("one(0, 0)", x.one(0, 0), false);
        CHECK.due("one(0, 4)", x.one(0, 4), false);
        CHECK.due("one(4, 0)", x.one(4, 0), false);
        CHECK.due("one(-1, 0)", x.one(-1, 0), false);
        CHECK.due("one(0, -1)", x.one(0, -1), false);
        CHECK.due("one(0, 1)", x.one(0, 1), true);
        CHECK.due("one(0, 1) again", x.one(0, 1), false);
        CHECK.due("one(1, 0)", x.one(1, 0), false);
        CHECK.due("one(1, 2)", x.one(1, 2), false);
        CHECK.due("one(2, 1)", x.one(2, 1), false);
        CHECK.due("look(2, 1)", x.look(2, 1), -1);
        CHECK.due("one(0, 2)", x.one(0, 2), true);
        CHECK.due("one(3, 0)", x.one(3, 0), true);
        CHECK.due("look(2, 1)", x.look(2, 1), 0);
        CHECK.due("look(2, 0)", x.look(2, 0), 3);
        CHECK.due("look(3, 1)", x.look(3, 1), -1);
        CHECK.due("look(3, 0)", x.look(3, 0), 3);
    }

    private static void headsAreFoundThroughLongChains() {
        OtherNames x = withPeople(24);
        for (int p = 0; p < 23; p++) {
            CHECK.due("one(p + 1, p) " + p, x.one(p + 1, p), true);
        }
        for (int p = 0; p < 24; p++) {
            CHECK.due("look(p, 0) " + p, x.look(p, 0), 23);
        }
        CHECK.due("part(11)", x.part(11), true);
        CHECK.due("look(0, 0)", x.look(0, 0), 11);
        CHECK.due("look(12, 0)", x.look(12, 0), 23);
    }

    private static void partingTakesAlongThoseWithin() {
        OtherNames x = withPeople(4);
        x.one(1, 0);
        x.one(2, 1);
        x.one(2, 3);
        CHECK.due("part(2), a head", x.part(2), false);
        CHECK.due("part(4)", x.part(4), false);
        CHECK.due("part(-1)", x.part(-1), false);
        CHECK.due("part(1)", x.part(1), true);
        CHECK.due("look(1, 0)", x.look(1, 0), 1);
        CHECK.due("look(1, 1)", x.look(1, 1), -1);
        CHECK.due("look(0, 0)", x.look(0, 0), 1);
        CHECK.due("look(0, 1)", x.look(0, 1), 1);
        CHECK.due("look(3, 0)", x.look(3, 0), 2);
        CHECK.due("part(1) again", x.part(1), false);
        CHECK.due("one(1, 2)", x.one(1, 2), true);
        CHECK.due("look(3, 0)", x.look(3, 0), 1);
    }

    private static void strikingTakesAllOfTheHead() {
        OtherNames x = withPeople(5);
        x.one(1, 0);
        x.one(2, 1);
        x.one(2, 3);
        CHECK.due("strike(5)", x.strike(5), false);
        CHECK.due("strike(-1)", x.strike(-1), false);
        CHECK.due("look(0, 2)", x.look(0, 2), 0);
        CHECK.due("strike(0)", x.strike(0), true);
        for (int p = 0; p < 4; p++) {
            CHECK.due("look(p, 2) " + p, x.look(p, 2), 1);
            CHECK.due("strike(p) " + p, x.strike(p), false);
        }
        CHECK.due("look(4, 2)", x.look(4, 2), 0);
        CHECK.due("strike(4)", x.strike(4), true);
        CHECK.due("look(4, 2)", x.look(4, 2), 1);
    }

    private static void beingStruckOutIsCaughtForEver() {
        OtherNames x = withPeople(6);
        x.house(0, 1, 1, 0, 0);
        x.strike(0);
        x.one(2, 1);
        CHECK.due("one(0, 2): the first one is struck out", x.one(0, 2), true);
        CHECK.due("look(2, 2)", x.look(2, 2), 1);
        CHECK.due("look(1, 2)", x.look(1, 2), 1);
        CHECK.due("part(2)", x.part(2), true);
        CHECK.due("part(1)", x.part(1), true);
        CHECK.due("name(0, 1)", x.name(0, 1), -1);
        x.one(3, 4);
        CHECK.due("one(3, 1): the second one is struck out", x.one(3, 1), true);
        CHECK.due("look(3, 2)", x.look(3, 2), 1);
        CHECK.due("look(4, 2)", x.look(4, 2), 1);
        CHECK.due("part(4)", x.part(4), true);
        CHECK.due("look(4, 2)", x.look(4, 2), 1);
        CHECK.due("look(5, 2)", x.look(5, 2), 0);
        CHECK.due("name(0, 5)", x.name(0, 5), 1);
    }

    private static void strikingAfterPartingLeavesTheOthers() {
        OtherNames x = withPeople(2);
        x.one(0, 1);
        x.part(1);
        x.strike(0);
        CHECK.due("look(1, 2)", x.look(1, 2), 0);
        CHECK.due("look(0, 2)", x.look(0, 2), 1);
    }

    private static void namesOwnedAreThoseGivenToTheHeadOfThatTime() {
        OtherNames x = withPeople(3);
        x.house(2, 1, 5, 0, 0);
        x.house(0, 1, 6, 0, 0);
        x.name(0, 1);
        x.name(0, 1);
        x.name(1, 1);
        x.one(0, 1);
        x.name(0, 1);
        CHECK.due("look(1, 3)", x.look(1, 3), 3);
        CHECK.due("look(0, 3)", x.look(0, 3), 1);
        CHECK.due("look(2, 3)", x.look(2, 3), 0);
        x.strike(1);
        CHECK.due("look(1, 3) of one struck out", x.look(1, 3), 3);
    }

    private static void nobodyElseIsLookedAt() {
        OtherNames x = withPeople(1);
        CHECK.due("look(0, 8)", x.look(0, 8), -1);
        CHECK.due("look(0, -1)", x.look(0, -1), -1);
        CHECK.due("look(1, 0)", x.look(1, 0), -1);
        CHECK.due("look(1, 2)", x.look(1, 2), -1);
        CHECK.due("look(1, 3)", x.look(1, 3), -1);
        CHECK.due("look(-1, 3)", x.look(-1, 3), -1);
        for (int wild : Check.WILD) {
            CHECK.due("look(0, " + wild + ")", x.look(0, wild), -1);
            CHECK.due("look(" + wild + ", 0)", x.look(wild, 0), -1);
        }
    }
}
