import java.util.LinkedHashSet;
import java.util.Set;

/** Every number that a call takes: the last that is allowed and the first that is not, on both sides, and far out. */
public final class BoundsTest {
    private static final Check CHECK = new Check("BoundsTest");

    /** DAY 9; some of everything: named, bridged, crossed, turned back, one, struck out, lost. */
    private static final Story TOWN = Story.of("person 1 2 3 4; person 1 2 3 5; person 0 7 0 7; person 6 6 6 6;"
            + "house 0 1 10 255 2; house 1 5 20 4 0; house 2 1 30 129 0;"
            + "bridge 0 1 0 3000; bridge 1 2 5 10; name 0 0; name 0 1; name 1 0; name 2 2; name 0 3;"
            + "day 9; name 1 1; cross 0 1 10 3; back 0 20 1 4 5; one 0 1; strike 3; lose 2");
    private static final Story FULL_TOWN = Story.of("house 0 1 1 255 0; house 1 365 1 255 0; house 2 1 1 255 0")
            .then("house 0 7 1 255 0; house 1 1 1 255 0").times(24, "person 0 1 2 3")
            .then("name 0 0; name 1 0; name 2 0; name 3 0; name 4 0; name 0 23; name 4 23");
    private static final Story NEW = Story.of("");

    public static void main(String[] args) {
        personTakesMarksFromZeroToSeven();
        markTakesWhatIsThere();
        houseTakesItsNumbers();
        seedsCountFromOneTo9972();
        spansCountFromOneTo365();
        reasonsCountFromZeroTo255();
        dayGoesFromTheOneThatIsTo3000();
        onePartAndStrikeTakePeopleThatAreThere();
        nameAndLeadsTakeWhatIsThere();
        bridgeTakesTwoHousesAndDays();
        holdsTakesTwoHousesAndADay();
        crossTakesHousesAndAHand();
        backTakesAHouseAReasonAndHands();
        loseAndAnewTakeAHouse();
        joinsLeastAndCountTakeTheirNumbers();
        recordAndGivenTakeWhatIsThere();
        lookTakesPeopleAndEightNumbers();
        tellTakesItsNumbers();
        CHECK.end();
    }

    /** The # of the call stands for a number from low to high; all others are refused and change nothing. */
    private static void number(Story story, String call, int low, int atLow, int high, int atHigh) {
        CHECK.answers(story, call.replace("#", "" + low), atLow);
        CHECK.answers(story, call.replace("#", "" + high), atHigh);
        outside(story, call, low, high);
    }

    private static void outside(Story story, String call, int low, int high) {
        Set<Integer> others = new LinkedHashSet<>();
        for (int far : new int[] {32, 64, 256, 65536, 1 << 30}) {
            // Whoever kept a number in too few bits would take these for the ones that are allowed.
            others.add(low + far);
            others.add(high - far);
        }
        for (int wild : Check.WILD) {
            others.add(wild);
        }
        others.add(low - 1);
        others.add(high + 1);
        others.removeIf(n -> n >= low && n <= high);
        for (int n : others) {
            CHECK.refused(story, call.replace("#", "" + n));
        }
    }

    private static void personTakesMarksFromZeroToSeven() {
        String[] calls = {"person # 1 2 3", "person 1 # 2 3", "person 1 2 # 3", "person 1 2 3 #"};
        for (int m = 0; m < 4; m++) {
            number(NEW, calls[m], 0, 0, 7, 0);
            number(TOWN, calls[m], 0, 4, 7, 4);
            CHECK.answers(TOWN.then(calls[m].replace("#", "0")), "look 4 " + (4 + m), 0);
            CHECK.answers(TOWN.then(calls[m].replace("#", "7")), "look 4 " + (4 + m), 7);
        }
    }

    private static void markTakesWhatIsThere() {
        number(TOWN, "mark # 0 0", 0, 1, 3, 1);
        number(FULL_TOWN, "mark # 3 7", 0, 1, 23, 1);
        number(TOWN, "mark 2 # 5", 0, 1, 3, 1);
        for (int m = 0; m < 4; m++) {
            number(TOWN, "mark 2 " + m + " #", 0, 1, 7, 1);
            CHECK.answers(TOWN.then("mark 2 " + m + " 0"), "look 2 " + (4 + m), 0);
            CHECK.answers(TOWN.then("mark 2 " + m + " 7"), "look 2 " + (4 + m), 7);
        }
    }

    private static void houseTakesItsNumbers() {
        number(NEW, "house # 1 1 0 0", 0, 0, 2, 0);
        number(TOWN, "house # 365 9972 255 24", 0, 3, 2, 3);
        for (int kind = 0; kind < 3; kind++) {
            number(TOWN, "house " + kind + " # 1 0 0", 1, 3, 365, 3);
            number(TOWN, "house " + kind + " 1 # 0 0", 1, 3, 9972, 3);
            number(TOWN, "house " + kind + " 1 1 # 0", 0, 3, 255, 3);
            number(TOWN, "house " + kind + " 1 1 0 #", 0, 3, 24, 3);
        }
    }

    private static void seedsCountFromOneTo9972() {
        Story people = Story.of("person 0 0 0 0; person 0 0 0 0");
        int[][] dues = {{1, 1, 2}, {2, 2, 4}, {4986, 4986, 9972}, {4987, 4987, 1}, {9971, 9971, 9969}, {9972, 9972, 9971}};
        for (int[] due : dues) {
            Story house = people.then("house 0 1 " + due[0] + " 0 0");
            CHECK.answers(house, "name 0 0", due[1]);
            CHECK.answers(house, "name 0 0; name 0 1", due[2]);
        }
    }

    private static void spansCountFromOneTo365() {
        Story person = Story.of("person 0 0 0 0");
        int[][] dues = {
            {1, 0, 0}, {1, 1, 1}, {1, 3000, 3000}, {2, 1, 0}, {2, 2, 1}, {364, 363, 0}, {364, 364, 1},
            {365, 364, 0}, {365, 365, 1}, {365, 729, 1}, {365, 730, 2}, {365, 2919, 7}, {365, 2920, 8}, {365, 3000, 8},
        };
        for (int[] due : dues) {
            Story later = person.then("house 1 " + due[0] + " 7 0 0; day " + due[1] + "; name 0 0");
            CHECK.answers(later, "given 0 4", due[2]);
            CHECK.answers(later, "given 0 3", due[1]);
        }
        for (int span : new int[] {1, 365}) {
            Story lasting = person.then("house 0 " + span + " 7 0 0; name 0 0; day 3000");
            CHECK.answers(lasting, "name 0 0", 7);
            CHECK.answers(lasting, "given 0 4", 0);
            Story once = person.then("house 2 " + span + " 7 0 0; name 0 0");
            CHECK.answers(once, "name 0 0", 14);
            CHECK.answers(once, "given 0 4", 1);
            CHECK.answers(once, "day 3000; name 0 0; given 1 4", 2);
        }
    }

    private static void reasonsCountFromZeroTo255() {
        for (int reasons : new int[] {0, 1, 2, 127, 128, 254, 255}) {
            Story story = Story.of("person 0 0 0 0; house 0 1 7 " + reasons + " 0; name 0 0");
            for (int reason = 0; reason < 8; reason++) {
                boolean counts = (reasons >> reason) % 2 == 1;
                CHECK.answers(story, "back 0 7 " + reason + " 0 1", counts ? 0 : -1);
                CHECK.answers(story, "back 0 7 " + reason + " 0 1; record 0 0", counts ? 1 : 3);
            }
        }
    }

    private static void dayGoesFromTheOneThatIsTo3000() {
        number(NEW, "day #", 0, 1, 3000, 1);
        number(TOWN, "day #", 9, 1, 3000, 1);
        number(TOWN.then("day 3000"), "day #", 3000, 1, 3000, 1);
        CHECK.answers(NEW, "day 3000; tell 2", 3000);
        CHECK.answers(TOWN, "day 9; tell 2", 9);
        CHECK.answers(TOWN, "day 10; tell 2", 10);
    }

    private static void onePartAndStrikeTakePeopleThatAreThere() {
        Story four = Story.of("person 0 0 0 0; person 1 0 0 0; person 2 0 0 0; person 3 0 0 0");
        number(four, "one # 0", 1, 1, 3, 1);
        number(four, "one 0 #", 1, 1, 3, 1);
        number(four, "one # 3", 0, 1, 2, 1);
        number(four, "one 3 #", 0, 1, 2, 1);
        number(FULL_TOWN, "one # 0", 1, 1, 23, 1);
        number(FULL_TOWN, "one 23 #", 0, 1, 22, 1);
        number(four.then("one 0 1; one 0 2"), "part #", 1, 1, 2, 1);
        number(four.then("one 3 0"), "part #", 0, 1, 0, 1);
        number(FULL_TOWN.then("one 22 23"), "part #", 23, 1, 23, 1);
        number(four, "strike #", 0, 1, 3, 1);
        number(FULL_TOWN, "strike #", 0, 1, 23, 1);
    }

    private static void nameAndLeadsTakeWhatIsThere() {
        number(TOWN, "name # 0", 0, 10, 2, 60);
        number(TOWN, "name 0 #", 0, 10, 2, 40);
        number(FULL_TOWN, "name # 0", 0, 1, 4, 1);
        number(FULL_TOWN, "name 0 #", 0, 1, 23, 2);
        number(FULL_TOWN, "leads # 1", 0, 1, 4, 1);
        number(FULL_TOWN, "leads 0 #", 1, 1, 2, 2);
        number(FULL_TOWN, "leads 1 #", 1, 1, 1, 1);
        Story high = Story.of("person 0 0 0 0; house 2 1 9972 0 0; name 0 0; name 0 0");
        number(high, "leads 0 #", 9971, 9971, 9972, 9972);
        number(high.then("house 0 1 1 0 0"), "leads # 9971", 0, 9971, 0, 9971);
    }

    private static void bridgeTakesTwoHousesAndDays() {
        number(TOWN, "bridge # 2 0 0", 0, 1, 1, 1);
        number(TOWN, "bridge 0 # 0 0", 1, 1, 2, 1);
        number(FULL_TOWN, "bridge # 4 0 3000", 0, 1, 3, 1);
        number(FULL_TOWN, "bridge # 0 0 3000", 1, 1, 4, 1);
        number(FULL_TOWN, "bridge 4 # 0 3000", 0, 1, 3, 1);
        number(FULL_TOWN, "bridge 0 # 0 3000", 1, 1, 4, 1);
        number(TOWN, "bridge 1 0 # 3000", 0, 1, 3000, 1);
        number(TOWN, "bridge 1 0 0 #", 0, 1, 3000, 1);
        number(TOWN, "bridge 1 0 # 7", 0, 1, 7, 1);
        number(TOWN, "bridge 1 0 7 #", 7, 1, 3000, 1);
        number(TOWN, "bridge 1 0 # 0", 0, 1, 0, 1);
        number(TOWN, "bridge 1 0 3000 #", 3000, 1, 3000, 1);
        CHECK.refused(TOWN, "bridge 3 3 0 0");
        CHECK.refused(TOWN, "bridge 1 0 -1 -1");
        CHECK.refused(TOWN, "bridge 1 0 3001 3001");
    }

    private static void holdsTakesTwoHousesAndADay() {
        number(TOWN, "holds # 1 9", 0, 1, 0, 1);
        number(TOWN, "holds # 2 9", 0, 0, 1, 1);
        number(TOWN, "holds 0 # 9", 1, 1, 2, 0);
        number(FULL_TOWN.then("bridge 0 4 0 0"), "holds # 4 0", 0, 1, 3, 0);
        number(FULL_TOWN.then("bridge 4 3 0 0"), "holds 4 # 0", 0, 0, 3, 1);
        number(TOWN, "holds 0 1 #", 0, 1, 3000, 1);
        number(TOWN, "holds 1 0 #", 0, 0, 3000, 0);
        int[][] dues = {{0, 0}, {4, 0}, {5, 1}, {9, 1}, {10, 1}, {11, 0}, {3000, 0}};
        for (int[] due : dues) {
            CHECK.answers(TOWN, "holds 1 2 " + due[0], due[1]);
        }
        for (int day : new int[] {0, 1500, 3000}) {
            Story oneDay = TOWN.then("bridge 2 0 " + day + " " + day);
            CHECK.answers(oneDay, "holds 2 0 " + (day - 1), day == 0 ? -1 : 0);
            CHECK.answers(oneDay, "holds 2 0 " + day, 1);
            CHECK.answers(oneDay, "holds 2 0 " + (day + 1), day == 3000 ? -1 : 0);
        }
    }

    private static void crossTakesHousesAndAHand() {
        Story bridged = FULL_TOWN.then("bridge 0 4 0 0; bridge 4 0 0 0; bridge 4 3 0 0");
        CHECK.answers(bridged, "cross 0 4 1 9", 1);
        CHECK.answers(bridged, "cross 4 0 1 9", 1);
        CHECK.answers(bridged, "cross 4 3 2 9", 2);
        outside(bridged, "cross # 4 1 9", 0, 4);
        outside(bridged, "cross 4 # 1 9", 0, 4);
        outside(TOWN, "cross # 1 10 9", 0, 2);
        outside(TOWN, "cross 0 # 10 9", 0, 2);
        number(TOWN, "cross 0 1 10 #", 0, 40, 9, 40);
        for (int hand = 0; hand < 10; hand++) {
            CHECK.answers(TOWN, "cross 0 1 10 " + hand + "; record 2 3", hand);
        }
    }

    private static void backTakesAHouseAReasonAndHands() {
        number(FULL_TOWN, "back # 1 0 0 1", 0, 0, 4, 0);
        number(TOWN, "back 0 10 # 0 1", 0, 0, 7, 0);
        number(TOWN, "back 0 10 0 # 5", 0, 0, 9, 0);
        number(TOWN, "back 0 10 0 5 #", 0, 0, 9, 0);
        for (int hand = 0; hand < 9; hand++) {
            CHECK.answers(TOWN, "back 0 10 0 " + hand + " 9; record 2 3", hand);
            CHECK.answers(TOWN, "back 0 10 0 9 " + hand + "; record 2 4", hand);
        }
    }

    private static void loseAndAnewTakeAHouse() {
        number(TOWN, "lose #", 0, 1, 1, 1);
        number(FULL_TOWN, "lose #", 0, 1, 4, 1);
        number(TOWN, "anew # 30", 2, 1, 2, 1);
        number(TOWN, "anew 2 #", 30, 1, 30, 1);
        Story allLost = FULL_TOWN.then("lose 0; lose 1; lose 2; lose 3; lose 4");
        number(allLost, "anew # 1", 0, 1, 4, 1);
        number(allLost, "anew 4 #", 1, 1, 1, 1);
        Story greatest = Story.of("house 0 1 9972 0 0; lose 0");
        number(greatest, "anew 0 #", 9972, 1, 9972, 1);
        CHECK.refused(greatest, "anew 0 19945");
    }

    private static void joinsLeastAndCountTakeTheirNumbers() {
        number(FULL_TOWN, "joins # 4 0", 0, 0, 3, 0);
        number(FULL_TOWN, "joins # 0 0", 1, 0, 4, 0);
        number(FULL_TOWN, "joins 4 # 0", 0, 0, 3, 0);
        number(FULL_TOWN, "joins 0 # 0", 1, 0, 4, 0);
        number(TOWN, "joins # 2 0", 0, 0, 1, 0);
        number(TOWN, "joins 1 0 #", 0, 1, 15, 1);
        number(FULL_TOWN, "least # 15", 0, 2, 4, 2);
        number(TOWN, "least # 0", 0, 1, 2, 1);
        number(TOWN, "least 0 #", 0, 1, 15, 1);
        number(FULL_TOWN, "count # 0 0", 0, 2, 4, 2);
        number(TOWN, "count # 0 1", 0, -2, 2, 0);
        number(FULL_TOWN, "count 0 # 0", 0, 2, 3, 0);
        number(FULL_TOWN, "count 0 # 3", 0, 0, 3, 2);
        number(FULL_TOWN.then("mark 0 0 7"), "count 0 0 #", 0, 1, 7, 1);
    }

    private static void recordAndGivenTakeWhatIsThere() {
        number(TOWN, "record # 0", 0, 0, 1, 1);
        number(TOWN, "record # 5", 0, 9, 1, 9);
        number(TOWN, "record 0 #", 0, 0, 5, 9);
        number(TOWN, "record 1 #", 0, 1, 5, 9);
        number(TOWN, "given # 1", 0, 10, 6, 60);
        number(TOWN, "given # 2", 0, 0, 6, 0);
        number(TOWN, "given 0 #", 0, 0, 4, 0);
        number(TOWN, "given 5 #", 0, 1, 4, 1);
    }

    private static void lookTakesPeopleAndEightNumbers() {
        number(TOWN, "look # 0", 0, 0, 3, 3);
        number(TOWN, "look # 2", 0, 0, 3, 1);
        number(TOWN, "look # 3", 0, 3, 3, 1);
        number(TOWN, "look # 7", 0, 4, 3, 6);
        number(TOWN, "look 0 #", 0, 0, 7, 4);
        number(TOWN, "look 1 #", 0, 0, 7, 5);
        number(FULL_TOWN, "look # 0", 0, 0, 23, 23);
    }

    private static void tellTakesItsNumbers() {
        int[] town = {4, 3, 9, 7, 2, 2};
        int[] namesOfTown = {3, 3, 1};
        int[] knownToTown = {1, 1, 1};
        int[] lostInTown = {0, 0, 1};
        for (int what = -50; what <= 150; what++) {
            int h = what % 10;
            int due = what >= 0 && what <= 5 ? town[what] : -1;
            due = what >= 10 && what <= 12 ? namesOfTown[h] : due;
            due = what >= 20 && what <= 22 ? knownToTown[h] : due;
            due = what >= 30 && what <= 32 ? lostInTown[h] : due;
            CHECK.answers(TOWN, "tell " + what, due);
            boolean ofAll = what >= 0 && what <= 5;
            boolean ofHouse = what >= 10 && what <= 39 && h <= 4;
            CHECK.due("tell " + what, FULL_TOWN.answer("tell " + what) != -1, ofAll || ofHouse);
        }
        for (int wild : Check.WILD) {
            CHECK.refused(TOWN, "tell " + wild);
            CHECK.refused(FULL_TOWN, "tell " + wild);
        }
        for (int what = 0; what <= 34; what++) {
            CHECK.answers(FULL_TOWN, "tell " + (what + 65536), -1);
            CHECK.answers(FULL_TOWN, "tell " + (what + 256), -1);
        }
    }
}
