/** Promises 1 (a new object), 4 (house), 5 (day), 15 (lose), 16 (anew), 23 (tell). */
public final class HousesTest {
    private static final Check CHECK = new Check("HousesTest");

    public static void main(String[] args) {
        aNewObjectIsEmpty();
        housesAreNumberedUpToFive();
        housesHaveTheirBounds();
        daysGoOn();
        booksAreLostAndMadeAnew();
        allIsToldOfEachHouse();
        nothingElseIsTold();
        objectsShareNothing();
        CHECK.end();
    }

    private static void aNewObjectIsEmpty() {
        OtherNames x = new OtherNames();
        for (int what = 0; what <= 5; what++) {
            CHECK.due("tell " + what, x.tell(what), 0);
        }
        for (int what = 6; what <= 40; what++) {
            CHECK.due("tell " + what, x.tell(what), -1);
        }
        CHECK.due("look(0, 0)", x.look(0, 0), -1);
        CHECK.due("given(0, 0)", x.given(0, 0), -1);
        CHECK.due("record(0, 0)", x.record(0, 0), -1);
        CHECK.due("name(0, 0)", x.name(0, 0), -1);
        CHECK.due("leads(0, 1)", x.leads(0, 1), -1);
        CHECK.due("least(0, 0)", x.least(0, 0), -1);
        CHECK.due("count(0, 0, 0)", x.count(0, 0, 0), -1);
        CHECK.due("lose(0)", x.lose(0), false);
        CHECK.due("strike(0)", x.strike(0), false);
    }

    private static void housesAreNumberedUpToFive() {
        OtherNames x = new OtherNames();
        for (int h = 0; h < 5; h++) {
            CHECK.due("house " + h, x.house(h % 3, 1, 1, 0, 0), h);
        }
        CHECK.due("house 5", x.house(0, 1, 1, 0, 0), -1);
        CHECK.due("tell(1)", x.tell(1), 5);
        CHECK.due("tell(14)", x.tell(14), 0);
        CHECK.due("tell(15)", x.tell(15), -1);
    }

    private static void housesHaveTheirBounds() {
        int[][] wrongs = {
            {-1, 1, 1, 0, 0}, {3, 1, 1, 0, 0}, {0, 0, 1, 0, 0}, {0, 366, 1, 0, 0}, {1, 366, 1, 0, 0},
            {2, 0, 1, 0, 0}, {0, 1, 0, 0, 0}, {0, 1, 9973, 0, 0}, {0, 1, -1, 0, 0}, {0, 1, 1, -1, 0},
            {0, 1, 1, 256, 0}, {0, 1, 1, 0, -1}, {0, 1, 1, 0, 25},
        };
        OtherNames x = new OtherNames();
        for (int i = 0; i < wrongs.length; i++) {
            int[] w = wrongs[i];
            CHECK.due("wrong house " + i, x.house(w[0], w[1], w[2], w[3], w[4]), -1);
        }
        for (int wild : Check.WILD) {
            CHECK.due("kind " + wild, x.house(wild, 1, 1, 0, 0), -1);
            CHECK.due("span " + wild, x.house(0, wild, 1, 0, 0), -1);
            CHECK.due("seed " + wild, x.house(0, 1, wild, 0, 0), -1);
            CHECK.due("reasons " + wild, x.house(0, 1, 1, wild, 0), -1);
            CHECK.due("least " + wild, x.house(0, 1, 1, 0, wild), -1);
        }
        CHECK.due("tell(1)", x.tell(1), 0);
        CHECK.due("the smallest", x.house(0, 1, 1, 0, 0), 0);
        CHECK.due("the greatest", x.house(2, 365, 9972, 255, 24), 1);
    }

    private static void daysGoOn() {
        OtherNames x = new OtherNames();
        CHECK.due("day(-1)", x.day(-1), false);
        CHECK.due("day(0)", x.day(0), true);
        CHECK.due("day(7)", x.day(7), true);
        CHECK.due("day(7) again", x.day(7), true);
        CHECK.due("day(6)", x.day(6), false);
        CHECK.due("tell(2)", x.tell(2), 7);
        CHECK.due("day(3001)", x.day(3001), false);
        CHECK.due("day(3000)", x.day(3000), true);
        CHECK.due("day(2999)", x.day(2999), false);
        CHECK.due("tell(2)", x.tell(2), 3000);
        for (int wild : Check.WILD) {
            CHECK.due("day(" + wild + ")", x.day(wild), false);
        }
    }

    private static void booksAreLostAndMadeAnew() {
        OtherNames x = new OtherNames();
        x.person(0, 0, 0, 0);
        x.house(0, 1, 77, 1, 0);
        x.house(0, 1, 78, 1, 0);
        x.bridge(0, 1, 0, 9);
        x.bridge(1, 0, 0, 9);
        x.name(0, 0);
        CHECK.due("anew(0, 77), not lost", x.anew(0, 77), false);
        CHECK.due("lose(2)", x.lose(2), false);
        CHECK.due("lose(-1)", x.lose(-1), false);
        CHECK.due("lose(0)", x.lose(0), true);
        CHECK.due("lose(0) again", x.lose(0), false);
        CHECK.due("tell(30)", x.tell(30), 1);
        CHECK.due("tell(31)", x.tell(31), 0);
        CHECK.due("back, lost", x.back(0, 77, 0, 1, 2), -1);
        CHECK.due("cross from a lost one", x.cross(0, 1, 77, 1), -1);
        CHECK.due("record(0, 0)", x.record(0, 0), 3);
        CHECK.due("record(1, 0)", x.record(1, 0), 2);
        CHECK.due("name(1, 0)", x.name(1, 0), 78);
        CHECK.due("cross to a lost one", x.cross(1, 0, 78, 1), 77);
        CHECK.due("leads, lost", x.leads(0, 77), 77);
        CHECK.due("tell(20), lost", x.tell(20), 1);
        CHECK.due("count, lost", x.count(0, 0, 0), 1);
        CHECK.due("anew(2, 77)", x.anew(2, 77), false);
        CHECK.due("anew(-1, 77)", x.anew(-1, 77), false);
        CHECK.due("anew(0, 78)", x.anew(0, 78), false);
        CHECK.due("anew(0, 0)", x.anew(0, 0), false);
        CHECK.due("tell(30)", x.tell(30), 1);
        CHECK.due("anew(0, 77)", x.anew(0, 77), true);
        CHECK.due("tell(30)", x.tell(30), 0);
        CHECK.due("back, anew", x.back(0, 77, 0, 1, 2), 0);
        CHECK.due("cross, anew", x.cross(0, 1, 77, 1), 78);
        CHECK.due("lose(0), anew", x.lose(0), true);
    }

    private static void allIsToldOfEachHouse() {
        OtherNames x = new OtherNames();
        for (int p = 0; p < 3; p++) {
            x.person(p, 0, 0, 0);
        }
        x.house(0, 1, 1, 0, 0);
        x.house(2, 1, 2, 0, 0);
        x.name(0, 0);
        x.name(1, 0);
        x.name(1, 0);
        x.name(1, 1);
        x.bridge(0, 1, 3, 4);
        x.cross(0, 1, 1, 0);
        x.day(2);
        x.lose(1);
        int[][] dues = {
            {0, 3}, {1, 2}, {2, 2}, {3, 4}, {4, 1}, {5, 1}, {10, 1}, {11, 3}, {12, -1},
            {20, 1}, {21, 2}, {22, -1}, {30, 0}, {31, 1}, {32, -1},
        };
        for (int[] due : dues) {
            CHECK.due("tell " + due[0], x.tell(due[0]), due[1]);
        }
    }

    private static void nothingElseIsTold() {
        OtherNames x = new OtherNames();
        for (int h = 0; h < 5; h++) {
            x.house(0, 1, 1, 0, 0);
        }
        for (int what = -45; what <= 130; what++) {
            boolean ofAll = what >= 0 && what <= 5;
            boolean ofHouse = what >= 10 && what < 40 && what % 10 < 5;
            int due = what == 1 ? 5 : ofAll || ofHouse ? 0 : -1;
            CHECK.due("tell " + what, x.tell(what), due);
        }
        for (int wild : Check.WILD) {
            CHECK.due("tell " + wild, x.tell(wild), -1);
        }
    }

    private static void objectsShareNothing() {
        OtherNames x = new OtherNames();
        OtherNames y = new OtherNames();
        x.person(1, 1, 1, 1);
        x.house(0, 1, 1, 1, 1);
        x.name(0, 0);
        x.day(9);
        for (int what = 0; what <= 5; what++) {
            CHECK.due("tell of the other " + what, y.tell(what), 0);
        }
    }
}
