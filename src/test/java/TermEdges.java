/** The edges of what the document says ahead of its promises: the numbers, HOUSE, PEOPLE, LIVES, TASKS and so on. */
final class TermEdges extends Edges {
    /** ROOMS 0 to 5 in a row; THE LOW DOOR in 1, back 3. */
    private static final String ROW = "01,12,23,34,45;13";
    private static final String STAYS = "................";

    static void all() {
        numbers();
        chapter("Terms");
        houseDoors();
        houseLowDoor();
        houseSights();
        people();
        lifeText();
        lifeSteps();
        lifeMay();
        met();
        most();
        tasks();
        shortestSteps();
        shortestFirst();
        shortestMayBe();
        meet();
        locked();
        glimpses();
        lives();
        draws();
        image();
        refusals();
    }

    private static void numbers() {
        chapter("What it is");
        says("ROOMS are 0 to 5, MINUTES 0 to 59.");
        edge("ROOM 0 is one", 0, () -> lifeless().there(0, 30, 0));
        edge("ROOM 5 is one", 0, () -> lifeless().there(0, 30, 5));
        edge("ROOM -1 is none", UNKNOWN, () -> lifeless().there(0, 30, -1));
        edge("ROOM 6 is none", UNKNOWN, () -> lifeless().there(0, 30, 6));
        edge("MINUTE 0 is one", 0, () -> lifeless().there(0, 0, 1));
        edge("MINUTE 59 is one", 0, () -> lifeless().there(0, 59, 1));
        edge("MINUTE -1 is none", OUTSIDE, () -> lifeless().there(0, -1, 1));
        edge("MINUTE 60 is none", OUTSIDE, () -> lifeless().there(0, 60, 1));
        says("An object is used for at most 512 calls after it has been made; what later calls answer is free.");
        edge("the 512th call is answered as told", () -> {
            HourAgo x = new HourAgo();
            for (int i = 1; i < 512; i++) {
                is(1, i % 2 == 1 ? x.letters('a') : x.blank());
            }
            is(9, x.letters(packed("01;11;02")));
        });
        edge("512 of the dearest calls are answered as told", () -> {
            HourAgo x = put(new HourAgo(), FULL_HOUSE);
            x.house();
            x.task(0, 59, 59);
            for (int i = 0; i < 30; i++) {
                is(NONE, x.shortest(CLERK, 30, 1, 1, 0));
            }
            long digest = x.digest();
            for (int i = 40; i < 512; i++) {
                is(digest, x.digest());
            }
        });
    }

    private static void aHouse(String name, String text, int doors) {
        edge(name, () -> {
            HourAgo x = page(text);
            is(text.length(), x.fault(0));
            is(doors, x.house());
        });
    }

    /** With a HOUSE there already, so that the refusal could change something. */
    private static void noHouse(String name, String text) {
        refusal(name, STATE, () -> put(kept(), text), HourAgo::house);
    }

    private static void houseDoors() {
        says("A HOUSE is a text: one to ten DOORS with \",\" between, each two unlike digits (ROOMS; no two DOORS join "
            + "the same ones), then \";\" and two digits: the ROOM of THE LOW DOOR, BACK (1 to 9); then perhaps \";\" "
            + "and one to four SIGHTS with \",\" between, each two unlike digits (ROOMS from each of which one sees "
            + "into the other; no two SIGHTS of the same ones).");
        noHouse("an empty PAGE is no HOUSE", "");
        noHouse("no DOOR is no HOUSE", ";11");
        aHouse("one DOOR is a HOUSE", "01;11", 1);
        aHouse("ten DOORS are a HOUSE", TEN_DOORS + ";11", 10);
        noHouse("eleven DOORS are no HOUSE", TEN_DOORS + ",24;11");
        aHouse("a DOOR between ROOM 0 and ROOM 5", "05;11", 1);
        aHouse("a DOOR told by its greater ROOM first", "50;11", 1);
        noHouse("a DOOR into ROOM 6 is none", "06;11");
        noHouse("a DOOR out of ROOM 6 is none", "61;11");
        noHouse("a DOOR of like digits is none", "11;11");
        noHouse("a DOOR told twice is none", "01,12,01;11");
        noHouse("a DOOR told twice, the other way round, is none", "01,12,10;11");
        noHouse("a DOOR of one digit is none", "0;11");
        noHouse("a DOOR of three digits is none", "012;11");
        noHouse("DOORS without \",\" between are none", "0112;11");
        noHouse("DOORS with \";\" between are none", "01;12;11");
        noHouse("\",\" ahead of the first DOOR is none", ",01;11");
        noHouse("\",\" behind the last DOOR is none", "01,;11");
        noHouse("two \",\" between DOORS are none", "01,,12;11");
        noHouse("DOORS alone are no HOUSE", "01,12");
    }

    private static void houseLowDoor() {
        noHouse("\";\" behind the DOORS alone is no HOUSE", "01;");
        noHouse("no \";\" behind the DOORS is no HOUSE", "0111");
        aHouse("THE LOW DOOR in ROOM 0", "01;01", 1);
        aHouse("THE LOW DOOR in ROOM 5, to which no DOOR leads", "01;51", 1);
        noHouse("THE LOW DOOR in ROOM 6 is none", "01;61");
        noHouse("BACK left out is no HOUSE", "01;1");
        noHouse("BACK 0 is none", "01;10");
        aHouse("BACK 1", "01;11", 1);
        aHouse("BACK 9", "01;19", 1);
        noHouse("BACK 10 is none", "01;110");
    }

    private static void houseSights() {
        edge("no SIGHT is a HOUSE", 0, () -> housed("01;11").count(1));
        noHouse("\";\" without a SIGHT is no HOUSE", "01;11;");
        edge("one SIGHT is a HOUSE", 1, () -> housed("01;11;23").count(1));
        edge("four SIGHTS are a HOUSE", 4, () -> housed("01;11;23,02,45,13").count(1));
        noHouse("five SIGHTS are no HOUSE", "01;11;23,02,45,13,05");
        edge("a SIGHT between ROOM 0 and ROOM 5", 2, () -> housed("01;11;05").between(0, 5));
        noHouse("a SIGHT into ROOM 6 is none", "01;11;06");
        noHouse("a SIGHT out of ROOM 6 is none", "01;11;61");
        noHouse("a SIGHT of like digits is none", "01;11;22");
        noHouse("a SIGHT told twice is none", "01;11;23,45,23");
        noHouse("a SIGHT told twice, the other way round, is none", "01;11;23,45,32");
        noHouse("a SIGHT of one digit is none", "01;11;2");
        noHouse("SIGHTS without \",\" between are none", "01;11;2345");
        noHouse("\",\" behind the last SIGHT is none", "01;11;23,");
        noHouse("\";\" behind the last SIGHT is none", "01;11;23;");
        noHouse("a letter behind a HOUSE is none", "01;11;23 ");
        edge("one sees from the lesser ROOM into the greater", 2, () -> housed("01;11;32").between(2, 3));
        edge("one sees from the greater ROOM into the lesser", 2, () -> housed("01;11;23").between(3, 2));
        edge("a SIGHT of the ROOMS of a DOOR", 3, () -> housed("01;11;10").between(0, 1));
        aHouse("the longest HOUSE has 44 letters", FULL_HOUSE, 10);
        noHouse("a 45th letter is no HOUSE's", FULL_HOUSE + "0");
    }

    private static void people() {
        says("PEOPLE (4 at most, numbered) are of KINDS: 0 PERSON, 1 BLIND, 2 CHILD, 3 CLERK, 4 CAT.");
        edge("the first of the PEOPLE is 0", 0, () -> housed(HOUSE).person(CAT));
        edge("the fourth of the PEOPLE is 3", 3, () -> ofPeople(3).person(PERSON));
        refusal("there is no fifth of the PEOPLE", FULL, () -> ofPeople(4), x -> x.person(PERSON));
        edge("KIND 0 is the least", 0, () -> lone(HOUSE, 0, "300").about(0, 0));
        edge("KIND 4 is the greatest", 4, () -> lone(HOUSE, 4, "300").about(0, 0));
        says("All are PERSONS; a CAT is a CLERK, too.");
        for (int kind = PERSON; kind <= CAT; kind++) {
            int own = kind;
            edge("KIND " + own + " is a PERSON", 0, () -> lone(HOUSE, own, "300").as(0, PERSON));
            edge("KIND " + own + " is of its KIND", 0, () -> lone(HOUSE, own, "300").as(0, own));
        }
        edge("a CAT is a CLERK", 0, () -> lone(HOUSE, CAT, "300").as(0, CLERK));
        edge("a CLERK is no CAT", NONE, () -> lone(HOUSE, CLERK, "300").as(0, CAT));
        edge("a PERSON is no CLERK", NONE, () -> lone(HOUSE, PERSON, "300").as(0, CLERK));
        edge("a CAT is no CHILD", NONE, () -> lone(HOUSE, CAT, "300").as(0, CHILD));
        says("THE LOW DOOR leads a PERSON back so many MINUTES as BACK tells, a CHILD one more.");
        edge("BACK 1 leads a PERSON back 1", 29, () -> backFrom30(PERSON, 1));
        edge("BACK 9 leads a PERSON back 9", 21, () -> backFrom30(PERSON, 9));
        edge("BACK 1 leads a CHILD back 2", 28, () -> backFrom30(CHILD, 1));
        edge("BACK 9 leads a CHILD back 10", 20, () -> backFrom30(CHILD, 9));
        edge("BACK 9 leads a BLIND back 9", 21, () -> backFrom30(BLIND, 9));
        edge("BACK 9 leads a CLERK back 9", 21, () -> backFrom30(CLERK, 9));
        edge("BACK 9 leads a CAT back 9", 21, () -> backFrom30(CAT, 9));
    }

    private static HourAgo ofPeople(int count) {
        HourAgo x = housed(HOUSE);
        for (int i = 0; i < count; i++) {
            x.person(BLIND);
        }
        return x;
    }

    private static long backFrom30(int kind, int back) {
        return lone("01;1" + back, kind, "301t").about(0, 3);
    }

    private static void aLife(String name, String text, int selves) {
        edge(name, () -> {
            HourAgo x = put(lifeless(), text);
            is(text.length(), x.fault(1));
            is(selves, x.life(0));
        });
    }

    /** With a LIFE there already, so that the refusal could change something. */
    private static void noLife(String name, String text) {
        refusal(name, STATE, () -> put(kept(), text), x -> x.life(0));
    }

    private static void lifeText() {
        says("A LIFE is a text: two digits (the MINUTE when it begins, its tens first), a digit (the ROOM), then none "
            + "to sixteen STEPS: \".\" (it stays), a digit (it goes through a DOOR into that ROOM), \"t\" (through THE "
            + "LOW DOOR).");
        noLife("an empty PAGE is no LIFE", "");
        noLife("one digit is no LIFE", "3");
        noLife("two digits are no LIFE", "30");
        noLife("no ROOM is no LIFE", "30.");
        edge("the tens come first", 12, () -> lone(HOUSE, PERSON, "123").self(0, 0, 0));
        edge("the ROOM comes third", 3, () -> lone(HOUSE, PERSON, "123").self(0, 0, 1));
        aLife("it may begin in MINUTE 0", "000", 1);
        aLife("it may begin in MINUTE 59", "590", 1);
        noLife("it may not begin in MINUTE 60", "600");
        noLife("it may not begin in MINUTE 99", "990");
        noLife("no digit in the MINUTE's place is no LIFE", "3t0");
        aLife("it may begin in ROOM 0", "300", 1);
        aLife("it may begin in ROOM 5, to which no DOOR leads", "305", 1);
        noLife("it may not begin in ROOM 6", "306");
        aLife("none STEPS are a LIFE", "301", 1);
        aLife("one STEP is a LIFE", "301.", 2);
        aLife("sixteen STEPS are a LIFE", "300" + STAYS, 17);
        noLife("seventeen STEPS are no LIFE", "300" + STAYS + ".");
        aLife("a STEP through a DOOR into the greater ROOM", "3001", 2);
        aLife("a STEP through a DOOR into the lesser ROOM", "3010", 2);
        noLife("no STEP leads where no DOOR is", "3003");
        noLife("no STEP leads into its own ROOM", "3011");
        noLife("no STEP leads through a SIGHT", "3002");
        noLife("no STEP leads into ROOM 6", "3016");
        aLife("a STEP through THE LOW DOOR", "301t", 2);
        noLife("no STEP leads through THE LOW DOOR from another ROOM", "300t");
        noLife("another letter is no STEP", "301T");
        edge("sixteen STEPS through THE LOW DOOR are a LIFE", 17, () -> put(personIn("01;01"), "160" + "t".repeat(16))
            .life(0));
    }

    private static HourAgo personIn(String house) {
        HourAgo x = housed(house);
        x.person(PERSON);
        return x;
    }

    private static void lastIs(String name, String life, int minute, int room) {
        edge(name, () -> {
            HourAgo x = lone(HOUSE, PERSON, life);
            is(minute, x.about(0, 3));
            is(room, x.about(0, 4));
        });
    }

    private static void lifeSteps() {
        says("At each STEP but \"t\" it is a MINUTE later; by \"t\" so many MINUTES earlier, in the same ROOM.");
        lastIs("by \".\" it is a MINUTE later in the same ROOM", "301.", 31, 1);
        lastIs("by a DOOR it is a MINUTE later in that ROOM", "3012", 31, 2);
        lastIs("by \"t\" it is BACK earlier in the same ROOM", "301t", 27, 1);
        lastIs("by \"t\" twice it is twice BACK earlier", "301tt", 24, 1);
        says("It is there at its beginning and behind each STEP: these are its SELVES, one more than STEPS.");
        edge("no STEP is one SELF", 1, () -> lone(HOUSE, PERSON, "301").about(0, 1));
        edge("sixteen STEPS are 17 SELVES", 17, () -> lone(HOUSE, PERSON, "301" + STAYS).about(0, 1));
        edge("the first SELF is there at its beginning", 30, () -> lone(HOUSE, PERSON, "301t").self(0, 0, 0));
        edge("the last SELF is there behind the last STEP", 27, () -> lone(HOUSE, PERSON, "301t").self(0, 1, 0));
    }

    private static void lifeMay() {
        says("A LIFE MAY be, if all that is so, and no MINUTE is below 0 or above 59.");
        aLife("by \".\" up to MINUTE 59", "580.", 2);
        noLife("by \".\" above MINUTE 59 it may not be", "590.");
        aLife("by a DOOR up to MINUTE 59", "5801", 2);
        noLife("by a DOOR above MINUTE 59 it may not be", "5901");
        noLife("above MINUTE 59 it may not be, though it goes back then", "591.t");
        aLife("by sixteen STEPS up to MINUTE 59", "430" + STAYS, 17);
        noLife("by sixteen STEPS above MINUTE 59 it may not be", "440" + STAYS);
        aLife("by \"t\" down to MINUTE 0", "031t", 2);
        noLife("by \"t\" below MINUTE 0 it may not be", "021t");
        noLife("by \"t\" from MINUTE 0 it may not be", "001t");
        aLife("by \"t\" twice down to MINUTE 0", "061tt", 3);
        noLife("by \"t\" twice below MINUTE 0 it may not be", "051tt");
        edge("a CHILD's by \"t\" down to MINUTE 0", 2, () -> put(childIn(HOUSE), "041t").life(0));
        refusal("a CHILD's by \"t\" below MINUTE 0 may not be", STATE, () -> put(childIn(HOUSE), "031t"),
            x -> x.life(0));
        edge("a CHILD's by BACK 9 down to MINUTE 0", 2, () -> put(childIn("01;19"), "101t").life(0));
        refusal("a CHILD's by BACK 9 below MINUTE 0 may not be", STATE, () -> put(childIn("01;19"), "091t"),
            x -> x.life(0));
        says("At first nobody has one.");
        edge("a new PERSON has no SELVES", 0, () -> lifeless().about(0, 1));
        edge("a new PERSON has none though another one has a LIFE", 0, () -> furnished().about(1, 1));
        edge("a new PERSON in another HOUSE has none", () -> {
            HourAgo x = put(furnished(), HOUSE);
            x.house();
            is(0, x.person(PERSON));
            is(0, x.about(0, 1));
            is(UNKNOWN, x.self(0, 0, 0));
        });
    }

    private static HourAgo childIn(String house) {
        HourAgo x = housed(house);
        x.person(CHILD);
        return x;
    }

    private static void met(String name, int want, int kind, String life) {
        edge(name, want, () -> lone(HOUSE, kind, life).met(0));
    }

    private static void met() {
        says("MET: a PERSON is MET by itself in a MINUTE, if two of its SELVES are in it in the same ROOM, or one sees "
            + "into the ROOM of the other (a BLIND: in the same ROOM alone); a CLERK, a CAT never.");
        String same = "201...t";
        String seen = "1012.1.t0";
        met("one SELF is never MET", NONE, PERSON, "301");
        met("SELVES in the same ROOM, but no MINUTE, are not MET", NONE, PERSON, "301.....");
        met("a PERSON is MET in the same ROOM", 20, PERSON, same);
        met("a PERSON is MET when the later SELF sees from the lesser ROOM", 12, PERSON, seen);
        met("a PERSON is MET when the later SELF sees from the greater ROOM", 12, PERSON, "1010.1.t2");
        edge("a PERSON is MET by a SIGHT told the other way round", 12, () -> lone("01,12;13;20", PERSON, seen).met(0));
        met("a PERSON is not MET through a DOOR", NONE, PERSON, "1012.1.t");
        edge("a PERSON is not MET through two SIGHTS", NONE, () -> lone("01,12,13;13;02,23", PERSON, "1013.1.t0")
            .met(0));
        met("a BLIND is MET in the same ROOM", 20, BLIND, same);
        met("a BLIND is not MET by a SIGHT", NONE, BLIND, seen);
        met("a CHILD is MET in the same ROOM", 20, CHILD, "201....t");
        met("a CHILD is MET by a SIGHT", 12, CHILD, "1012.1..t0");
        met("a CLERK is never MET in the same ROOM", NONE, CLERK, same);
        met("a CLERK is never MET by a SIGHT", NONE, CLERK, seen);
        met("a CAT is never MET in the same ROOM", NONE, CAT, same);
        met("a CAT is never MET by a SIGHT", NONE, CAT, seen);
        met("a PERSON is MET in MINUTE 0", 0, PERSON, "001...t");
        edge("a PERSON is MET in MINUTE 59", 59, () -> lone("01,12;13", PERSON, "570.1t2.1").met(0));
        edge("the first and the last of 17 SELVES are MET", 15, () -> lone("01;17", PERSON, "151........t......t")
            .met(0));
        says("(Behind \"t\" it is in the same ROOM in another MINUTE.)");
        met("by \"t\" alone it is not MET", NONE, PERSON, "301t");
        edge("by \"t\" alone it is not MET with BACK 1", NONE, () -> lone("01;11", PERSON, "301t").met(0));
        edge("by \"t\" and \".\" it is MET with BACK 1", 30, () -> lone("01;11", PERSON, "301t.").met(0));
    }

    private static void most(String name, String house, String life, int many, int minute) {
        edge(name, () -> {
            HourAgo x = lone(house, PERSON, life);
            is(many, x.most(0, 0));
            is(minute, x.most(0, 1));
        });
    }

    private static void most() {
        says("MOST: how many SELVES it has in one MINUTE at most; in which first.");
        most("one SELF is the most", HOUSE, "301", 1, 30);
        most("17 SELVES in as many MINUTES", HOUSE, "000" + STAYS, 1, 0);
        most("9 of 17 SELVES in one MINUTE are the most that there can be", "01;11", "301" + ".t".repeat(8), 9, 30);
        most("the first MINUTE of like ones, not the first SELF", HOUSE, "301.t.t", 1, 26);
        most("a later MINUTE with more SELVES", "01;11", "301..t.", 2, 31);
        most("SELVES in one MINUTE in unlike ROOMS", HOUSE, "1012.1.t", 2, 11);
        most("most SELVES in MINUTE 0", "01;11", "001.t", 2, 0);
        most("most SELVES in MINUTE 59", "01;11", "591t.", 2, 59);
    }

    private static long doneBy(String life, int room, int from, int to) {
        HourAgo x = lone(HOUSE, PERSON, life);
        x.task(room, from, to);
        return x.done(0);
    }

    private static void tasks() {
        says("TASKS (5 at most, numbered): a ROOM, a MINUTE from, a MINUTE to.");
        edge("the first of the TASKS is 0", 0, () -> housed(HOUSE).task(0, 0, 0));
        edge("the fifth of the TASKS is 4", 4, () -> ofTasks(4).task(0, 0, 0));
        refusal("there is no sixth of the TASKS", FULL, () -> ofTasks(5), x -> x.task(0, 0, 0));
        says("One is DONE by a PERSON, if one of its SELVES is in that ROOM in one of these MINUTES.");
        edge("a TASK is DONE in its MINUTE from", 1, () -> doneBy("301", 1, 30, 40));
        edge("a TASK is DONE in its MINUTE to", 1, () -> doneBy("301", 1, 20, 30));
        edge("a TASK is DONE in its only MINUTE", 1, () -> doneBy("301", 1, 30, 30));
        edge("a TASK is not DONE ahead of its MINUTE from", 0, () -> doneBy("301", 1, 31, 40));
        edge("a TASK is not DONE behind its MINUTE to", 0, () -> doneBy("301", 1, 20, 29));
        edge("a TASK is not DONE in another ROOM", 0, () -> doneBy("301", 2, 0, 59));
        edge("a TASK of MINUTE 0 is DONE", 1, () -> doneBy("000", 0, 0, 0));
        edge("a TASK of MINUTE 59 is DONE", 1, () -> doneBy("590", 0, 59, 59));
        edge("a TASK is DONE by the first of 17 SELVES", 1, () -> doneBy("301" + STAYS, 1, 30, 30));
        edge("a TASK is DONE by the last of 17 SELVES", 1, () -> doneBy("301" + STAYS, 1, 46, 46));
        edge("a TASK is DONE by a SELF that went back", 1, () -> doneBy("301t", 1, 27, 27));
        edge("a TASK is not DONE by nobody's LIFE", 0, () -> {
            HourAgo x = lifeless();
            x.task(0, 0, 59);
            return x.done(0);
        });
    }

    private static HourAgo ofTasks(int count) {
        HourAgo x = housed(HOUSE);
        for (int i = 0; i < count; i++) {
            x.task(5, 59, 59);
        }
        return x;
    }

    /** Of all these TASKS (ROOM, MINUTE from, MINUTE to) at once. */
    private static void shortest(String name, String house, int[] begin, int steps, int first, int[]... tasks) {
        edge(name, () -> {
            HourAgo x = housed(house);
            for (int[] task : tasks) {
                x.task(task[0], task[1], task[2]);
            }
            int set = (1 << tasks.length) - 1;
            is(steps, x.shortest(begin[0], begin[1], begin[2], set, 0));
            is(first, x.shortest(begin[0], begin[1], begin[2], set, 1));
        });
    }

    private static int[] of(int... numbers) {
        return numbers;
    }

    private static void shortestSteps() {
        says("SHORTEST for a KIND, a MINUTE and a ROOM to begin with, a set of TASKS: the fewest STEPS (0 to 6) of a "
            + "LIFE that MAY be by which all of these are DONE, and it is never MET; the first STEP of it: of all such "
            + "LIVES the least: 0 to 5 the ROOM, 6 \".\", 7 \"t\".");
        int[] begin = of(PERSON, 30, 0);
        shortest("no STEP for no TASKS", ROW, begin, 0, NONE);
        shortest("no STEP for a TASK where it begins", ROW, begin, 0, NONE, of(0, 30, 30));
        shortest("no STEP for a TASK in ROOM 0 in MINUTE 0", ROW, of(PERSON, 0, 0), 0, NONE, of(0, 0, 0));
        shortest("no STEP for a TASK in ROOM 5 in MINUTE 59", ROW, of(PERSON, 59, 5), 0, NONE, of(5, 59, 59));
        shortest("one STEP", ROW, begin, 1, 1, of(1, 0, 59));
        shortest("one STEP from ROOM 0 in MINUTE 0", ROW, of(PERSON, 0, 0), 1, 1, of(1, 0, 59));
        shortest("five STEPS", ROW, begin, 5, 1, of(5, 0, 59));
        shortest("six STEPS", ROW, begin, 6, 1, of(5, 36, 59));
        shortest("not in seven STEPS", ROW, begin, NONE, NONE, of(5, 37, 59));
        shortest("never in a ROOM to which no DOOR leads", "01;13", begin, NONE, NONE, of(5, 0, 59));
        shortest("not all TASKS of which each alone can be DONE", "01;59", begin, NONE, NONE, of(1, 31, 31),
            of(0, 31, 31));
        shortest("five TASKS at once", ROW, begin, 5, 1, of(0, 30, 30), of(2, 0, 59), of(3, 0, 59), of(1, 31, 31),
            of(5, 35, 35));
    }

    private static void shortestFirst() {
        shortest("the first STEP is 0", ROW, of(PERSON, 30, 1), 1, 0, of(0, 0, 59));
        shortest("the first STEP is 5", ROW, of(PERSON, 30, 4), 1, 5, of(5, 0, 59));
        shortest("the first STEP is 6", ROW, of(PERSON, 30, 0), 1, 6, of(0, 31, 59));
        shortest("the first STEP is 7", ROW, of(PERSON, 30, 1), 1, 7, of(1, 0, 29));
        shortest("the least ROOM, not the first DOOR", "02,01,13,23;13", of(PERSON, 30, 0), 2, 1, of(3, 0, 59));
        shortest("a ROOM ahead of \".\"", "01;13", of(PERSON, 30, 0), 2, 1, of(0, 32, 32));
        shortest("ROOM 5 ahead of \".\"", "25;13", of(PERSON, 30, 2), 2, 5, of(2, 32, 32));
        shortest("\".\" ahead of \"t\"", "02;11", of(CLERK, 30, 1), 3, 6, of(1, 31, 31), of(1, 29, 29));
        shortest("fewer STEPS ahead of a lesser first one", "01,12,02;13", of(PERSON, 30, 0), 1, 2, of(2, 0, 59));
    }

    private static void shortestMayBe() {
        shortest("no STEP from MINUTE 59", ROW, of(PERSON, 59, 0), NONE, NONE, of(1, 0, 59));
        shortest("up to MINUTE 59", ROW, of(PERSON, 58, 0), 1, 1, of(1, 59, 59));
        shortest("\"t\" from MINUTE 59", ROW, of(PERSON, 59, 1), 1, 7, of(1, 56, 56));
        shortest("\"t\" down to MINUTE 0", ROW, of(PERSON, 3, 1), 1, 7, of(1, 0, 0));
        shortest("no \"t\" below MINUTE 0", ROW, of(PERSON, 2, 1), 2, 6, of(1, 0, 1));
        shortest("a CHILD's \"t\" down to MINUTE 0", ROW, of(CHILD, 4, 1), 1, 7, of(1, 0, 0));
        shortest("a CHILD's \"t\" not below MINUTE 0", ROW, of(CHILD, 3, 1), 2, 6, of(1, 0, 2));
        shortest("a CLERK may be MET", "01;12", of(CLERK, 30, 1), 4, 0, of(1, 28, 28), of(1, 32, 32));
        shortest("a CAT may be MET", "01;12", of(CAT, 30, 1), 4, 0, of(1, 28, 28), of(1, 32, 32));
        shortest("a PERSON goes about not to be MET", "01;12", of(PERSON, 30, 1), 5, 7, of(1, 28, 28), of(1, 32, 32));
        shortest("a PERSON who must be MET has none", "02;11", of(PERSON, 30, 1), NONE, NONE, of(1, 31, 31),
            of(1, 29, 29));
        shortest("a PERSON may be in two ROOMS in MINUTE 0", "01;11", of(PERSON, 0, 0), 2, 1, of(1, 0, 0));
        shortest("a PERSON may not be seen in MINUTE 0", "01;11;01", of(PERSON, 0, 0), NONE, NONE, of(1, 0, 0));
        shortest("a PERSON may try MINUTE 0 more than once", "02,12;02", of(PERSON, 0, 2), 4, 1, of(0, 1, 1),
            of(1, 1, 1));
        shortest("a BLIND may be seen", "01,12;12;01", of(BLIND, 30, 0), 4, 1, of(2, 31, 31), of(1, 32, 32));
        shortest("a PERSON goes about not to be seen", "01,12;12;01", of(PERSON, 30, 0), 5, 1, of(2, 31, 31),
            of(1, 32, 32));
    }

    private static void meet(String name, int want, String life, String other) {
        edge(name, () -> {
            HourAgo x = lone(HOUSE, CAT, life);
            alive(x, BLIND, other);
            is(want, x.meet(0, 1));
            is(want, x.meet(1, 0));
        });
    }

    private static void meet() {
        says("MEET: the first MINUTE in which SELVES of two PEOPLE are in the same ROOM.");
        meet("they MEET in MINUTE 0", 0, "001..", "001");
        meet("they MEET in MINUTE 59", 59, "571..", "591");
        meet("they MEET at their beginnings", 30, "301", "301");
        meet("they MEET by the last of 17 SELVES", 46, "301" + STAYS, "461");
        meet("the first MINUTE of both, not the first SELF", 28, "301.t", "281..");
        meet("they don't MEET in one ROOM in unlike MINUTES", NONE, "301", "311");
        meet("they don't MEET in one MINUTE in unlike ROOMS", NONE, "301", "302");
        meet("they don't MEET by a SIGHT", NONE, "300", "302");
        edge("they don't MEET without a LIFE", NONE, () -> furnished().meet(0, 1));
    }

    private static void locked(String name, int want, String... lives) {
        edge(name, () -> {
            HourAgo x = housed(TEN_DOORS + ";11");
            for (String life : lives) {
                alive(x, PERSON, life);
            }
            is(want, x.locked());
        });
    }

    private static void locked() {
        says("LOCKED: the DOOR (by number) without which most PEOPLE (of those who have a LIFE) could not have theirs; "
            + "of like ones the least.");
        locked("the first DOOR is 0", 0, "3001");
        locked("the tenth DOOR is 9", 9, "3023");
        locked("a DOOR that is gone through the other way", 9, "3032");
        locked("a DOOR of the last of 16 STEPS", 0, "300...............1");
        locked("a DOOR of most PEOPLE, not of most STEPS", 5, "3001010101", "3012", "3021");
        locked("a DOOR of all four PEOPLE", 9, "30123", "30232", "3023", "300232");
        locked("of like DOORS the least", 5, "30123");
        locked("of like DOORS of unlike PEOPLE the least", 0, "3023", "3001");
        locked("THE LOW DOOR is no DOOR", NONE, "301t");
        edge("one without a LIFE needs no DOOR", NONE, () -> lifeless().locked());
    }

    private static void glimpses() {
        says("GLIMPSES (8 at most): a MINUTE, a ROOM in which somebody was seen.");
        edge("the first GLIMPSE is one", 1, () -> housed(HOUSE).glimpse(0, 0));
        edge("the eighth GLIMPSE is one", 8, () -> ofGlimpses(7).glimpse(0, 0));
        refusal("there is no ninth GLIMPSE", FULL, () -> ofGlimpses(8), x -> x.glimpse(0, 0));
        edge("a GLIMPSE may come twice", 2, () -> ofGlimpses(1).glimpse(59, 5));
        says("WHOSE: all PEOPLE who could be behind all of these (without GLIMPSES all, with a LIFE or without).");
        edge("without PEOPLE nobody is behind none", 0, () -> housed(HOUSE).whose());
        edge("without GLIMPSES all are", 3, () -> {
            HourAgo x = furnished();
            x.forget();
            return x.whose();
        });
        edge("behind a GLIMPSE is nobody without a LIFE", 1, () -> furnished().whose());
        edge("behind eight GLIMPSES", 1, () -> full().whose());
        edge("not behind all but the eighth GLIMPSE", 0, () -> {
            HourAgo x = lone(HOUSE, PERSON, "301");
            for (int i = 0; i < 7; i++) {
                x.glimpse(30, 1);
            }
            x.glimpse(30, 2);
            return x.whose();
        });
        says("PAIR: in how many ways each GLIMPSE can be told to one of two PEOPLE who has a SELF there (without "
            + "GLIMPSES: 1).");
        edge("one way without GLIMPSES", 1, () -> pair(0, 0, 0));
        edge("one way for a GLIMPSE of one of them", 1, () -> pair(1, 0, 0));
        edge("two ways for a GLIMPSE of both", 2, () -> pair(0, 1, 0));
        edge("no way for a GLIMPSE of neither", 0, () -> pair(0, 0, 1));
        edge("256 ways for eight GLIMPSES of both", 256, () -> pair(0, 8, 0));
        edge("no way for seven of both and one of neither", 0, () -> pair(0, 7, 1));
        edge("four ways for two of both and six of one of them", 4, () -> pair(6, 2, 0));
        edge("one way for one PERSON with two SELVES there", 1, () -> {
            HourAgo x = lone(HOUSE, PERSON, "301...t");
            alive(x, PERSON, "302");
            x.glimpse(30, 1);
            return x.pair(0, 1);
        });
    }

    private static HourAgo ofGlimpses(int count) {
        HourAgo x = housed(HOUSE);
        for (int i = 0; i < count; i++) {
            x.glimpse(59, 5);
        }
        return x;
    }

    /** With so many GLIMPSES of one of two PEOPLE, of both, of neither. */
    private static long pair(int ofOne, int ofBoth, int ofNeither) {
        HourAgo x = lone(HOUSE, PERSON, "301.");
        alive(x, CHILD, "301");
        for (int i = 0; i < ofOne + ofBoth + ofNeither; i++) {
            x.glimpse(i < ofOne ? 31 : i < ofOne + ofBoth ? 30 : 29, 1);
        }
        return x.pair(0, 1);
    }

    /** The least SEED whose DRAWS, of so many each, are these. */
    private static int seedOf(int ways, int... wanted) {
        for (int seed = 0; seed < 1000000; seed++) {
            boolean is = true;
            for (int i = 0; i < wanted.length && is; i++) {
                is = drawn(seed, i + 1) / 65536 % ways == wanted[i];
            }
            if (is) {
                return seed;
            }
        }
        throw new IllegalStateException("no seed");
    }

    /** Where it is in the end: MINUTE and ROOM as one number. */
    private static long end(String house, int kind, int room, int steps, int seed) {
        HourAgo x = housed(house);
        return 10L * x.lives(kind, room, steps, seed, 0) + x.lives(kind, room, steps, seed, 1);
    }

    private static void lives() {
        says("LIVES by a SEED, as they would be: of a KIND, from MINUTE 30 in a ROOM on, so many STEPS (1 to 16): each "
            + "of those that MAY be (ROOMS by number, then \".\", then \"t\") by a DRAW of how many there are (none: "
            + "it ends): how it is then.");
        edge("from ROOM 0 on", 310, () -> end("12;13", PERSON, 0, 1, 5));
        edge("from ROOM 5 on", 315, () -> end("12;13", PERSON, 5, 1, 5));
        edge("16 STEPS, where \".\" alone may be", 465, () -> end("12;13", PERSON, 5, 16, 5));
        String house = "02,01;13";
        edge("the first of three is the least ROOM", 311, () -> end(house, PERSON, 0, 1, seedOf(3, 0)));
        edge("the second of three is the next ROOM", 312, () -> end(house, PERSON, 0, 1, seedOf(3, 1)));
        edge("the third of three, without THE LOW DOOR, is \".\"", 310, () -> end(house, PERSON, 0, 1, seedOf(3, 2)));
        edge("the first of three, by THE LOW DOOR, is the ROOM", 310, () -> end(house, PERSON, 1, 1, seedOf(3, 0)));
        edge("the second of three, by THE LOW DOOR, is \".\"", 311, () -> end(house, PERSON, 1, 1, seedOf(3, 1)));
        edge("the third of three, by THE LOW DOOR, is \"t\"", 271, () -> end(house, PERSON, 1, 1, seedOf(3, 2)));
        edge("all seven that may be in one ROOM", () -> {
            for (int drawn = 0; drawn < 7; drawn++) {
                int room = drawn == 0 ? 0 : Math.min(5, drawn + 1);
                long want = drawn < 5 ? 310 + room : drawn == 5 ? 311 : 291;
                is(want, end(TEN_DOORS + ";11", PERSON, 1, 1, seedOf(7, drawn)));
            }
        });
        int thrice = seedOf(2, 1, 1, 1);
        edge("a CHILD's \"t\" thrice down to MINUTE 0", 1, () -> end("02;19", CHILD, 1, 3, thrice));
        edge("\"t\" may not be below MINUTE 0", 11, () -> end("02;19", CHILD, 1, 4, thrice));
        edge("it may be MET", 301, () -> end("02;11", PERSON, 1, 2, seedOf(2, 0, 1)));
        edge("it does not end: from MINUTE 30 on \".\" may be 16 times", drawn(7, 16), () -> housed(FULL_HOUSE)
            .lives(CAT, 1, 16, 7, 3));
    }

    private static void draws() {
        says("DRAWS: the next SEED each time: 1103515245 times it and 12345, its rest by 2 to the 31; then that by "
            + "65536 (rounded down), its rest.");
        edge("the SEED behind 0 is 12345", 12345, () -> housed(HOUSE).lives(PERSON, 5, 1, 0, 3));
        edge("the SEED behind 1 is 1103527590", 1103527590, () -> housed(HOUSE).lives(PERSON, 5, 1, 1, 3));
        edge("the SEED behind 5 goes over 2 to the 31", 1222621274, () -> housed(HOUSE).lives(PERSON, 5, 1, 5, 3));
        edge("the SEED behind the greatest int", 1043980748, () -> housed(HOUSE).lives(PERSON, 5, 1, MOST, 3));
        edge("12345 by 65536 is 0", 310, () -> end(HOUSE, PERSON, 1, 1, 0));
        edge("1222621274 by 65536 is 18655, whose rest by 4 is 3", 271, () -> end(HOUSE, PERSON, 1, 1, 5));
        edge("a DRAW of one moves the SEED, too", drawn(5, 2), () -> housed(HOUSE).lives(PERSON, 5, 2, 5, 3));
    }

    private static void image() {
        says("An IMAGE keeps LIVES, TASKS, GLIMPSES.");
        edge("an IMAGE of nothing", () -> {
            HourAgo x = housed(HOUSE);
            x.image();
            x.task(0, 0, 0);
            x.glimpse(0, 0);
            x.restore();
            is(0, x.count(3));
            is(0, x.count(4));
        });
        edge("an IMAGE of as much as there can be", () -> {
            HourAgo x = full();
            x.blank();
            for (int person = 0; person < 4; person++) {
                lead(x, person, "595");
            }
            x.forget();
            x.glimpse(0, 0);
            x.restore();
            isAs(full(), put(x, "~".repeat(45)));
        });
        edge("an IMAGE keeps that there is no LIFE", 0, () -> {
            HourAgo x = kept();
            x.restore();
            return x.about(1, 1);
        });
        edge("an IMAGE keeps not THE PAGE", 3, () -> {
            HourAgo x = put(kept(), "abc");
            x.restore();
            return x.count(5);
        });
        edge("an IMAGE keeps not how often shortest() was done", 1, () -> {
            HourAgo x = kept();
            x.shortest(PERSON, 30, 0, 0, 0);
            x.restore();
            return x.count(7);
        });
    }

    private static void refusals() {
        says("Refusals, of several the first as told by each call: UNKNOWN (a number names nothing), OUTSIDE (it is "
            + "not as told), STATE (as told), FULL; they change nothing.");
        edge("UNKNOWN is -101", -101, () -> new HourAgo().met(0));
        edge("OUTSIDE is -102", -102, () -> new HourAgo().count(10));
        edge("STATE is -103", -103, () -> new HourAgo().image());
        edge("FULL is -104", -104, () -> full().person(PERSON));
        refusal("all that are UNKNOWN, one behind another", UNKNOWN, Bench::full, x -> x.between(0, 6), x -> x.life(4),
            x -> x.about(4, 0), x -> x.as(4, 0), x -> x.self(0, 17, 0), x -> x.there(0, 0, 6), x -> x.met(4),
            x -> x.most(4, 0), x -> x.meet(0, 4), x -> x.task(6, 0, 0), x -> x.done(4),
            x -> x.shortest(0, 0, 6, 0, 0), x -> x.glimpse(0, 6), x -> x.pair(0, 4), x -> x.lives(0, 6, 1, 0, 0));
        refusal("all that are OUTSIDE, one behind another", OUTSIDE, Bench::full, x -> x.letters(127L), x -> x.fault(2),
            x -> x.person(5), x -> x.about(0, 5), x -> x.as(0, 5), x -> x.self(0, 0, 2), x -> x.there(0, 60, 0),
            x -> x.most(0, 2), x -> x.task(0, 1, 0), x -> x.shortest(5, 0, 0, 0, 0), x -> x.glimpse(60, 0),
            x -> x.lives(5, 0, 1, 0, 0), x -> x.count(10));
        refusal("all that are of a STATE, one behind another", STATE, () -> put(kept(), "!"), HourAgo::house,
            x -> x.life(0));
        refusal("all that are of the STATE of no HOUSE, one behind another", STATE, () -> page("!"), HourAgo::house,
            x -> x.between(0, 1), x -> x.person(0), HourAgo::locked, x -> x.task(0, 0, 0),
            x -> x.shortest(0, 0, 0, 0, 0), x -> x.glimpse(0, 0), x -> x.lives(0, 0, 1, 0, 0), HourAgo::image,
            HourAgo::restore);
        refusal("all that are FULL, one behind another", FULL, Bench::full, x -> x.letters('a'), x -> x.person(0),
            x -> x.task(0, 0, 0), x -> x.glimpse(0, 0));
    }
}
