/** Nothing is there yet: a new object, and objects that have people alone, houses alone, or no names. */
public final class EmptyTest {
    private static final Check CHECK = new Check("EmptyTest");
    private static final Story NEW = Story.of("");
    private static final Story PEOPLE_ALONE = Story.of("person 0 0 0 0; person 7 7 7 7");
    private static final Story HOUSES_ALONE = Story.of("house 0 1 5 255 24; house 1 1 6 255 24; house 2 1 7 255 24");
    private static final Story NOBODY_NAMED =
            PEOPLE_ALONE.then("house 0 1 5 255 24; house 1 1 6 255 24; house 2 1 7 255 24");

    public static void main(String[] args) {
        aNewObjectHasNobodyAndNothing();
        aNewObjectRefusesWhatNeedsSomebody();
        theFirstOfAllHasNumberZero();
        peopleAloneAreNeitherNamedNorKnown();
        housesAloneKnowNobody();
        nobodyNamedIsNobodyKnown();
        whatIsAskedOfNobodyIsOnRecord();
        aBookThatKnowsNobodyCanBeLost();
        objectsDoNotShareAnything();
        CHECK.end();
    }

    private static void aNewObjectHasNobodyAndNothing() {
        for (int what = -1; what <= 40; what++) {
            CHECK.answers(NEW, "tell " + what, what >= 0 && what <= 5 ? 0 : -1);
        }
        for (int what = -1; what <= 8; what++) {
            CHECK.answers(NEW, "look 0 " + what, -1);
            CHECK.answers(NEW, "record 0 " + what, -1);
            CHECK.answers(NEW, "given 0 " + what, -1);
        }
        CHECK.answers(NEW, "day 0", 1);
        CHECK.answers(NEW, "day 3000", 1);
    }

    private static void aNewObjectRefusesWhatNeedsSomebody() {
        String[] calls = {
            "mark 0 0 0", "one 0 0", "one 0 1", "one -1 -1", "part 0", "part -1", "strike 0", "strike -1", "name 0 0",
            "name -1 -1", "leads 0 0", "leads 0 1", "leads -1 -1", "bridge 0 1 0 0", "bridge -1 0 0 0", "holds 0 1 0",
            "holds 0 0 0", "cross 0 1 1 0", "cross 0 0 0 0", "back 0 1 0 0 1", "lose 0", "anew 0 1", "anew 0 0",
            "anew -1 -1", "joins 0 1 0", "joins 0 0 0", "least 0 0", "count 0 0 0", "record 0 0", "given 0 0",
            "look 0 0", "tell 10", "tell 20", "tell 30",
        };
        for (String call : calls) {
            CHECK.refused(NEW, call);
        }
    }

    private static void theFirstOfAllHasNumberZero() {
        CHECK.answers(NEW, "person 0 0 0 0", 0);
        CHECK.answers(NEW, "house 0 1 1 0 0", 0);
        Story first = Story.of("person 0 0 0 0; house 0 1 9 0 0; house 1 1 8 0 0; name 0 0; cross 0 1 9 4; bridge 0 1 0 0");
        CHECK.answers(first, "given 0 1", 9);
        CHECK.answers(first, "given 1 1", -1);
        CHECK.answers(first, "record 0 3", 4);
        CHECK.answers(first, "record 1 3", -1);
        CHECK.answers(first, "holds 0 1 0", 1);
    }

    private static void peopleAloneAreNeitherNamedNorKnown() {
        for (int p = 0; p < 2; p++) {
            CHECK.refused(PEOPLE_ALONE, "name 0 " + p);
            CHECK.refused(PEOPLE_ALONE, "part " + p);
            CHECK.answers(PEOPLE_ALONE, "look " + p + " 0", p);
            CHECK.answers(PEOPLE_ALONE, "look " + p + " 1", -1);
            CHECK.answers(PEOPLE_ALONE, "look " + p + " 2", 0);
            CHECK.answers(PEOPLE_ALONE, "look " + p + " 3", 0);
        }
        CHECK.refused(PEOPLE_ALONE, "least 0 0");
        CHECK.refused(PEOPLE_ALONE, "count 0 0 0");
        CHECK.refused(PEOPLE_ALONE, "tell 20");
    }

    private static void housesAloneKnowNobody() {
        for (int h = 0; h < 3; h++) {
            CHECK.refused(HOUSES_ALONE, "name " + h + " 0");
            CHECK.refused(HOUSES_ALONE, "name " + h + " -1");
            CHECK.refused(HOUSES_ALONE, "anew " + h + " " + (5 + h));
            knowsNobody(HOUSES_ALONE, h);
        }
    }

    private static void nobodyNamedIsNobodyKnown() {
        Story allStruckOut = NOBODY_NAMED.then("name 0 0; name 1 0; name 2 0; name 2 1; one 0 1; strike 1");
        for (int h = 0; h < 3; h++) {
            knowsNobody(NOBODY_NAMED, h);
            CHECK.answers(allStruckOut, "tell " + (10 + h), h == 2 ? 2 : 1);
            CHECK.answers(allStruckOut, "tell " + (20 + h), 0);
            CHECK.answers(allStruckOut, "least " + h + " 15", 0);
            CHECK.answers(allStruckOut, "count " + h + " 0 0", 0);
            CHECK.answers(allStruckOut, "joins " + h + " " + (h + 1) % 3 + " 15", 0);
        }
    }

    private static void knowsNobody(Story story, int h) {
        CHECK.answers(story, "tell " + (10 + h), 0);
        CHECK.answers(story, "tell " + (20 + h), 0);
        CHECK.answers(story, "tell " + (30 + h), 0);
        CHECK.refused(story, "leads " + h + " " + (5 + h));
        for (int marks = 0; marks < 16; marks++) {
            CHECK.answers(story, "least " + h + " " + marks, 0);
            CHECK.answers(story, "joins " + h + " " + (h + 1) % 3 + " " + marks, 0);
        }
        for (int n = 0; n < 8; n++) {
            // Nobody has it and nobody has another: so even a LEAST of 24 does not hold a 0 back.
            CHECK.answers(story, "count " + h + " " + n % 4 + " " + n, 0);
        }
    }

    private static void whatIsAskedOfNobodyIsOnRecord() {
        CHECK.refusedOnRecord(HOUSES_ALONE, "cross 0 1 5 0", 2, 0, 5, 0, -1, 0);
        CHECK.refusedOnRecord(HOUSES_ALONE, "cross 2 2 7 9", 2, 2, 7, 9, -1, 0);
        CHECK.refusedOnRecord(HOUSES_ALONE, "back 1 6 7 9 0", 3, 1, 6, 9, 0, 0);
        CHECK.refusedOnRecord(HOUSES_ALONE.then("bridge 0 1 0 0"), "cross 0 1 5 0", 2, 0, 5, 0, -1, 0);
    }

    private static void aBookThatKnowsNobodyCanBeLost() {
        CHECK.answers(HOUSES_ALONE, "lose 0", 1);
        CHECK.answers(HOUSES_ALONE, "lose 0; anew 0 5", 1);
        CHECK.answers(HOUSES_ALONE, "lose 0; anew 0 5; anew 0 5", 0);
        CHECK.answers(HOUSES_ALONE, "lose 0; tell 30", 1);
    }

    private static void objectsDoNotShareAnything() {
        OtherNames x = new OtherNames();
        OtherNames y = new OtherNames();
        CHECK.due("x: person", x.person(1, 1, 1, 1), 0);
        CHECK.due("x: house", x.house(0, 1, 3, 255, 0), 0);
        CHECK.due("y: name", y.name(0, 0), -1);
        CHECK.due("y: person", y.person(2, 2, 2, 2), 0);
        CHECK.due("y: house", y.house(2, 1, 4, 255, 0), 0);
        CHECK.due("x: name", x.name(0, 0), 3);
        CHECK.due("y: name", y.name(0, 0), 4);
        CHECK.due("y: name", y.name(0, 0), 8);
        CHECK.due("x: strike", x.strike(0), true);
        CHECK.due("y: back", y.back(0, 4, 0, 0, 1), 0);
        CHECK.due("x: tell(4)", x.tell(4), 0);
        CHECK.due("y: day", y.day(7), true);
        CHECK.due("x: tell(2)", x.tell(2), 0);
        CHECK.due("x: look(0, 4)", x.look(0, 4), 1);
        CHECK.due("y: look(0, 2)", y.look(0, 2), 0);
        CHECK.due("x: tell(3)", x.tell(3), 1);
        CHECK.due("y: tell(3)", y.tell(3), 2);
    }
}
