/** All places are taken: 24 people, 5 houses, 200 names, 20 bridges, 200 entries of the record, the last day. */
public final class FullTest {
    private static final Check CHECK = new Check("FullTest");

    /** Houses 0 LASTING (seed 10), 1 SPANNED by 5 days (seed 20), 2 ONCE (seed 1); persons 0 to 3. */
    private static final Story TOWN = Story.of("person 1 0 0 0; person 2 0 0 0; person 3 0 0 0; person 4 0 0 0;"
            + "house 0 1 10 255 0; house 1 5 20 255 0; house 2 1 1 255 0; bridge 0 1 0 3000; bridge 0 2 0 3000;"
            + "bridge 1 0 0 3000; bridge 2 0 0 3000; bridge 2 1 0 3000");

    /** 200 names: persons 0 and 1 have one in house 0, person 0 has one in house 1, the others are of house 2. */
    private static final Story ALL_NAMES = TOWN.then("name 0 0; name 0 1; name 1 0").times(197, "name 2 0");

    public static void main(String[] args) {
        thereAreTwentyFourPeople();
        allPeopleCanBeOne();
        allPeopleCanBeKnown();
        thereAreFiveHouses();
        thereAreTwoHundredNames();
        theLimitOfNamesIsOneForAllHouses();
        namesThatAreThereAreStillAnswered();
        namesThatWouldBeNewAreRefused();
        crossingsStopWhereANewNameWouldBeNeeded();
        thereAreTwentyBridges();
        thereAreTwoHundredEntries();
        allFourKindsOfEntriesTakePlaces();
        whatIsTooMuchForTheRecordDoesNotHappen();
        theLastDayIs3000();
        allCanBeFullAtOnce();
        CHECK.end();
    }

    private static void thereAreTwentyFourPeople() {
        Story story = Story.of("house 0 1 1 0 0");
        for (int p = 0; p < 24; p++) {
            CHECK.answers(story, "person 7 6 5 4", p);
            CHECK.answers(story, "tell 0", p);
            CHECK.refused(story, "mark " + p + " 0 0");
            CHECK.refused(story, "name 0 " + p);
            story = story.then("person 7 6 5 4");
        }
        CHECK.answers(story, "tell 0", 24);
        CHECK.refused(story, "person 7 6 5 4");
        CHECK.refused(story, "person 0 0 0 0");
        CHECK.refused(story, "person 8 0 0 0");
        CHECK.refused(story.then("strike 0; one 1 2"), "person 0 0 0 0");
        CHECK.answers(story, "mark 23 3 0", 1);
        CHECK.answers(story, "name 0 23", 1);
        CHECK.answers(story, "strike 23", 1);
        CHECK.answers(story, "one 23 0", 1);
    }

    private static void allPeopleCanBeOne() {
        Story up = Story.of("house 0 1 1 255 0").times(24, "person 0 0 0 0");
        Story down = up;
        Story flat = up;
        for (int p = 0; p < 23; p++) {
            up = up.then("one " + (p + 1) + " " + p);
            down = down.then("one " + (22 - p) + " " + (23 - p));
            flat = flat.then("one 0 " + (p + 1));
        }
        for (int p = 0; p < 24; p++) {
            CHECK.answers(up, "look " + p + " 0", 23);
            CHECK.answers(down, "look " + p + " 0", 0);
            CHECK.answers(flat, "look " + p + " 0", 0);
            CHECK.answers(up, "strike 0; look " + p + " 2", 1);
            CHECK.answers(down, "strike 23; look " + p + " 2", 1);
            CHECK.answers(flat, "strike 11; look " + p + " 2", 1);
            CHECK.answers(up, "name 0 0; name 0 " + p, 1);
            CHECK.answers(up, "name 0 0; back 0 1 0 0 1", 23);
        }
        CHECK.answers(up, "part 22; look 0 0", 22);
        CHECK.answers(up, "part 22; look 23 0", 23);
        CHECK.answers(flat, "part 23; look 22 0", 0);
    }

    private static void allPeopleCanBeKnown() {
        Story story = Story.of("house 0 1 1 0 24; house 2 1 2 0 24; house 0 1 3 0 23");
        for (int p = 0; p < 24; p++) {
            String name = "name 0 " + p + "; name 1 " + p + "; name 2 " + p;
            story = story.then("person " + p % 8 + " " + p / 8 + " 0 0;" + name);
        }
        for (int h = 0; h < 3; h++) {
            CHECK.answers(story, "tell " + (20 + h), 24);
            CHECK.answers(story, "least " + h + " 0", 24);
            CHECK.answers(story, "least " + h + " 1", 3);
            CHECK.answers(story, "least " + h + " 2", 8);
            CHECK.answers(story, "least " + h + " 15", 1);
            CHECK.answers(story, "count " + h + " 3 0", 24);
            CHECK.answers(story, "count " + h + " 0 0", -2);
        }
        CHECK.answers(story, "joins 0 1 3", 24);
        CHECK.answers(story, "joins 0 1 1", 0);
        CHECK.answers(story, "strike 23; tell 20", 23);
        CHECK.answers(story, "strike 23; count 0 3 0", -2);
        CHECK.answers(story, "strike 23; count 2 3 0", 23);
        CHECK.answers(story, "strike 23; count 0 3 1", -2);
        CHECK.answers(story, "strike 23; count 2 3 1", 0);
        CHECK.answers(story, "strike 23; joins 0 1 15", 23);
    }

    private static void thereAreFiveHouses() {
        Story story = Story.of("person 0 0 0 0; person 1 1 1 1");
        for (int h = 0; h < 5; h++) {
            CHECK.refused(story, "name " + h + " 0");
            CHECK.refused(story, "lose " + h);
            CHECK.answers(story, "tell 1", h);
            CHECK.answers(story, "house 1 365 9972 255 24", h);
            story = story.then("house 1 365 9972 255 24");
        }
        CHECK.answers(story, "tell 1", 5);
        CHECK.refused(story, "house 1 365 9972 255 24");
        CHECK.refused(story, "house 0 1 1 0 0");
        CHECK.refused(story, "house 3 1 1 0 0");
        CHECK.refused(story.then("lose 4"), "house 0 1 1 0 0");
        CHECK.answers(story, "name 4 1", 9972);
        CHECK.answers(story, "bridge 4 0 0 0", 1);
        CHECK.answers(story, "lose 4", 1);
    }

    private static void thereAreTwoHundredNames() {
        Story almost = TOWN.times(199, "name 2 0");
        CHECK.answers(almost, "tell 3", 199);
        CHECK.refused(almost, "given 199 0");
        CHECK.refused(almost, "leads 2 200");
        CHECK.answers(almost, "name 2 0", 200);
        Story full = almost.then("name 2 0");
        CHECK.answers(full, "tell 3", 200);
        CHECK.answers(full, "tell 12", 200);
        CHECK.answers(full, "given 199 1", 200);
        CHECK.answers(full, "given 199 4", 200);
        CHECK.answers(full, "leads 2 200", 200);
        CHECK.answers(full, "look 0 3", 200);
        CHECK.refused(full, "name 2 0");
        CHECK.refused(full, "given 200 1");
        CHECK.refused(full, "leads 2 201");
        CHECK.answers(almost, "name 0 3", 10);
        CHECK.refused(almost.then("name 0 3"), "name 2 0");
        CHECK.answers(almost, "cross 2 1 7 0", 20);
        CHECK.refused(almost.then("cross 2 1 7 0"), "name 2 0");
        Story greatestSeed = Story.of("person 0 0 0 0; house 2 365 9972 0 0").times(200, "name 0 0");
        CHECK.answers(greatestSeed, "given 199 1", 9773);
        CHECK.answers(greatestSeed, "given 198 1", 9774);
        CHECK.refused(greatestSeed, "name 0 0");
    }

    private static void theLimitOfNamesIsOneForAllHouses() {
        Story story = Story.of("person 0 0 0 0; person 1 0 0 0").times(5, "house 2 1 3 0 0");
        for (int h = 0; h < 5; h++) {
            story = story.times(40, "name " + h + " " + h % 2);
        }
        CHECK.answers(story, "tell 3", 200);
        for (int h = 0; h < 5; h++) {
            CHECK.answers(story, "tell " + (10 + h), 40);
            CHECK.answers(story, "leads " + h + " 120", 120);
            CHECK.refused(story, "leads " + h + " 123");
            CHECK.refused(story, "name " + h + " 0");
            CHECK.refused(story, "name " + h + " 1");
        }
    }

    private static void namesThatAreThereAreStillAnswered() {
        CHECK.answers(ALL_NAMES, "tell 3", 200);
        CHECK.answers(ALL_NAMES, "name 0 0", 10);
        CHECK.answers(ALL_NAMES, "name 0 1", 20);
        CHECK.answers(ALL_NAMES, "name 1 0", 20);
        CHECK.answers(ALL_NAMES, "day 4; name 1 0", 20);
        CHECK.answers(ALL_NAMES, "one 0 2; name 0 2", 10);
        CHECK.answers(ALL_NAMES, "one 1 0; name 0 1", 10);
        CHECK.same("after naming", ALL_NAMES.then("name 0 1; name 1 0").seen(), ALL_NAMES.seen());
    }

    private static void namesThatWouldBeNewAreRefused() {
        CHECK.refused(ALL_NAMES, "name 0 2");
        CHECK.refused(ALL_NAMES, "name 0 3");
        CHECK.refused(ALL_NAMES, "name 1 1");
        CHECK.refused(ALL_NAMES, "name 2 0");
        CHECK.refused(ALL_NAMES, "name 2 3");
        CHECK.refused(ALL_NAMES.then("day 5"), "name 1 0");
        CHECK.refused(ALL_NAMES.then("one 0 2; part 2"), "name 0 2");
        CHECK.refused(ALL_NAMES.then("strike 0"), "name 2 1");
        CHECK.refused(ALL_NAMES.then("lose 2"), "name 2 1");
    }

    private static void crossingsStopWhereANewNameWouldBeNeeded() {
        CHECK.answers(ALL_NAMES, "cross 2 0 197 9", 10);
        CHECK.answers(ALL_NAMES, "cross 2 0 197 9; record 0 0", 0);
        CHECK.answers(ALL_NAMES, "cross 2 1 1 0", 20);
        CHECK.refusedOnRecord(ALL_NAMES, "cross 0 1 20 0", 2, 0, 20, 0, -1, 0);
        CHECK.refusedOnRecord(ALL_NAMES, "cross 0 2 10 9", 2, 0, 10, 9, -1, 0);
        CHECK.refusedOnRecord(ALL_NAMES.then("day 5"), "cross 2 1 1 4", 2, 2, 1, 4, -1, 5);
        CHECK.answers(ALL_NAMES, "back 0 20 0 1 2", 1);
    }

    private static void thereAreTwentyBridges() {
        Story story = Story.of("").times(5, "house 0 1 1 0 0");
        int bridges = 0;
        for (int h = 0; h < 5; h++) {
            for (int g = 0; g < 5; g++) {
                if (h != g) {
                    String bridge = "bridge " + h + " " + g + " 0 3000";
                    CHECK.answers(story, "tell 5", bridges);
                    CHECK.answers(story, "holds " + h + " " + g + " 3000", 0);
                    CHECK.answers(story, bridge, 1);
                    story = story.then(bridge);
                    CHECK.answers(story, "holds " + h + " " + g + " 3000", 1);
                    bridges++;
                }
            }
        }
        CHECK.answers(story, "tell 5", 20);
        CHECK.refused(story, "bridge 0 1 0 3000");
        CHECK.refused(story, "bridge 4 3 7 7");
        Story alike = Story.of("house 0 1 1 0 0; house 0 1 1 0 0; house 0 1 1 0 0").times(20, "bridge 0 1 5 5");
        CHECK.answers(alike, "tell 5", 20);
        CHECK.refused(alike, "bridge 0 1 5 5");
        CHECK.refused(alike, "bridge 1 2 0 3000");
        CHECK.refused(alike.then("day 6"), "bridge 1 2 6 3000");
        CHECK.answers(alike, "holds 1 2 0", 0);
    }

    private static void thereAreTwoHundredEntries() {
        Story almost = TOWN.then("name 0 0").times(199, "back 0 10 0 0 1");
        CHECK.answers(almost, "tell 4", 199);
        CHECK.refused(almost, "record 199 0");
        CHECK.answers(almost, "back 0 10 7 8 9", 0);
        CHECK.answers(almost, "back 0 10 7 8 9; record 199 4", 9);
        CHECK.answers(almost, "cross 0 1 10 6", 20);
        CHECK.answers(almost, "cross 0 1 10 6; record 199 3", 6);
        CHECK.answers(almost, "cross 0 1 11 6; record 199 0", 2);
        CHECK.answers(almost, "back 0 11 0 0 1; record 199 0", 3);
        String[] last = {"back 0 10 7 8 9", "cross 0 1 10 6", "cross 0 1 11 6", "back 0 11 0 0 1"};
        for (String call : last) {
            Story full = almost.then(call);
            CHECK.answers(full, "tell 4", 200);
            CHECK.refused(full, "back 0 10 0 0 1");
            CHECK.refused(full, "back 0 11 0 0 1");
            CHECK.refused(full, "cross 0 2 10 0");
            CHECK.refused(full, "cross 0 1 11 0");
            CHECK.refused(full, "record 200 0");
        }
    }

    private static void allFourKindsOfEntriesTakePlaces() {
        Story story = TOWN.then("name 0 0").times(50, "cross 0 1 10 1; back 0 10 0 2 3; cross 0 1 11 4; back 0 11 0 5 6");
        for (int i = 0; i < 200; i++) {
            CHECK.answers(story, "record " + i + " 0", i % 4);
            CHECK.answers(story, "record " + i + " 2", i % 4 < 2 ? 10 : 11);
            CHECK.answers(story, "record " + i + " 3", new int[] {1, 2, 4, 5}[i % 4]);
            CHECK.answers(story, "record " + i + " 4", new int[] {-1, 3, -1, 6}[i % 4]);
        }
        CHECK.answers(story, "tell 4", 200);
        // What the houses, hands and reasons rule out never took a place.
        Story wrongs = TOWN.then("name 0 0").times(120, "cross 0 1 10 10; back 0 10 8 0 1; back 9 10 0 0 1");
        CHECK.answers(wrongs, "tell 4", 0);
        CHECK.answers(wrongs, "back 0 10 0 0 1", 0);
    }

    private static void whatIsTooMuchForTheRecordDoesNotHappen() {
        Story full = TOWN.then("name 0 0; name 0 1; name 2 3").times(200, "back 0 10 0 0 0");
        CHECK.answers(full, "tell 4", 200);
        CHECK.refused(full, "cross 0 1 10 0");
        CHECK.refused(full, "cross 0 2 10 0");
        CHECK.refused(full, "cross 2 0 1 0");
        CHECK.refused(full, "cross 0 0 10 0");
        CHECK.refused(full, "back 0 20 0 0 1");
        CHECK.refused(full, "back 0 20 0 1 1");
        CHECK.refused(full, "cross 0 1 10 10");
        CHECK.refused(full, "back 3 10 0 0 1");
        CHECK.answers(full, "name 1 0", 20);
        CHECK.answers(full, "name 0 0", 10);
        CHECK.answers(full, "lose 0", 1);
        CHECK.answers(full, "lose 0; anew 0 10", 1);
        CHECK.answers(full, "strike 0", 1);
        CHECK.answers(full, "leads 0 10", 10);
    }

    private static void theLastDayIs3000() {
        Story last = TOWN.then("name 0 0; name 1 0; name 2 0; day 3000");
        CHECK.answers(last, "tell 2", 3000);
        CHECK.answers(last, "day 3000", 1);
        CHECK.refused(last, "day 3001");
        CHECK.refused(last, "day 2999");
        CHECK.refused(last, "day 0");
        CHECK.answers(last, "name 0 0", 10);
        CHECK.answers(last, "name 1 0", 40);
        CHECK.answers(last, "name 1 0; given 3 3", 3000);
        CHECK.answers(last, "name 1 0; given 3 4", 600);
        CHECK.answers(last, "cross 0 1 10 0", 40);
        CHECK.answers(last, "cross 0 1 10 0; record 0 5", 3000);
        CHECK.answers(last, "back 0 10 0 0 1; record 0 5", 3000);
        CHECK.answers(last, "bridge 1 2 3000 3000; holds 1 2 3000", 1);
    }

    private static void allCanBeFullAtOnce() {
        Story full = Story.of("house 2 1 1 255 0; house 0 1 2 255 0; house 1 9 3 255 0; house 0 1 4 255 0")
                .then("house 2 1 5 255 0").times(24, "person 1 2 3 4").times(20, "bridge 0 1 0 3000").times(200, "name 0 23")
                .then("day 3000").times(199, "back 0 200 7 8 9").then("cross 0 1 1 0");
        int[] dues = {24, 5, 3000, 200, 200, 20};
        for (int what = 0; what < dues.length; what++) {
            CHECK.answers(full, "tell " + what, dues[what]);
        }
        CHECK.answers(full, "record 198 0", 1);
        CHECK.answers(full, "record 199 0", 2);
        String[] calls = {
            "person 0 0 0 0", "house 0 1 1 0 0", "day 3001", "name 0 23", "name 1 0", "bridge 1 0 0 0",
            "cross 0 1 1 0", "back 0 1 0 0 1", "given 200 0", "record 200 0", "look 24 0", "tell 15",
        };
        for (String call : calls) {
            CHECK.answers(full, call, call.startsWith("day") || call.startsWith("bridge") ? 0 : -1);
            for (int what = 0; what < dues.length; what++) {
                CHECK.answers(full, call + "; tell " + what, dues[what]);
            }
        }
    }
}
