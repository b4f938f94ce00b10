/** The edges of promises 7 to 16: PEOPLE and their LIVES. */
final class PeopleEdges extends Edges {
    static void all() {
        person();
        life();
        about();
        as();
        self();
        there();
        met();
        most();
        meet();
        locked();
    }

    /** As many PEOPLE as there can be, the last of them without a LIFE. */
    private static HourAgo four() {
        HourAgo x = kept();
        x.person(BLIND);
        x.person(CHILD);
        return x;
    }

    private static void person() {
        chapter("Promise 7: person");
        says("A PERSON, without a LIFE: its number.");
        edge("PEOPLE are numbered from 0 to 3", () -> {
            HourAgo x = housed(HOUSE);
            for (int i = 0; i < 4; i++) {
                is(i, x.person(4 - i));
                is(4 - i, x.about(i, 0));
                is(0, x.about(i, 1));
            }
        });
        edge("a PERSON who comes changes no other one", 5, () -> {
            HourAgo x = furnished();
            x.person(CHILD);
            return x.about(0, 1);
        });
        edge("THE PAGE stays as a PERSON comes", 3, () -> {
            HourAgo x = put(housed(HOUSE), "301");
            x.person(CHILD);
            return x.count(5);
        });
        says("OUTSIDE: kind; STATE: no HOUSE; FULL.");
        refusal("there is no KIND -1", OUTSIDE, Bench::kept, x -> x.person(-1));
        refusal("there is no KIND 5", OUTSIDE, Bench::kept, x -> x.person(5));
        refusal("there is no KIND at the ends of int", OUTSIDE, Bench::kept, x -> x.person(LEAST), x -> x.person(MOST));
        refusal("nobody comes without a HOUSE", STATE, HourAgo::new, x -> x.person(PERSON), x -> x.person(CAT));
        refusal("nobody comes where four are", FULL, PeopleEdges::four, x -> x.person(PERSON), x -> x.person(CAT));
        refusal("KIND is told ahead of no HOUSE", OUTSIDE, HourAgo::new, x -> x.person(5));
        refusal("KIND is told ahead of FULL", OUTSIDE, PeopleEdges::four, x -> x.person(-1), x -> x.person(5));
    }

    private static void life() {
        chapter("Promise 8: life");
        says("THE PAGE is read as the LIFE of a PERSON (another one is gone): how many SELVES; THE PAGE is empty "
            + "then.");
        edge("a LIFE of one SELF", 1, () -> put(lifeless(), "000").life(0));
        edge("a LIFE of 17 SELVES", 17, () -> put(lifeless(), "000" + ".".repeat(16)).life(0));
        edge("a LIFE of PERSON 3", 2, () -> put(four(), "301t").life(3));
        edge("THE PAGE is empty behind a LIFE", 0, () -> lead(lifeless(), 0, "301t").count(5));
        edge("THE PAGE takes 45 letters behind a LIFE", 45, () -> put(lead(lifeless(), 0, "301t"), "a".repeat(45))
            .count(5));
        edge("another LIFE's SELVES are gone", UNKNOWN, () -> lead(kept(), 0, "595").self(0, 1, 0));
        edge("another LIFE's STEPS through THE LOW DOOR are gone", 0, () -> lead(kept(), 0, "595").about(0, 2));
        edge("another LIFE's DOORS are gone", NONE, () -> lead(kept(), 0, "595").locked());
        edge("another LIFE's meetings are gone", NONE, () -> lead(lone(HOUSE, PERSON, "201...t"), 0, "595").met(0));
        edge("a longer LIFE behind a shorter one", 17, () -> lead(lone(HOUSE, PERSON, "595"), 0, "000" + ".".repeat(16))
            .about(0, 1));
        edge("a LIFE changes no other one", 5, () -> lead(kept(), 1, "595").about(0, 1));
        says("UNKNOWN; STATE: it is none, or MAY not be.");
        refusal("a LIFE of nobody", UNKNOWN, () -> put(kept(), "301t"), x -> x.life(-1), x -> x.life(2));
        refusal("a LIFE of a fifth of the PEOPLE", UNKNOWN, () -> put(four(), "301t"), x -> x.life(4));
        refusal("a LIFE of PEOPLE at the ends of int", UNKNOWN, () -> put(kept(), "301t"), x -> x.life(LEAST),
            x -> x.life(MOST));
        refusal("a LIFE without PEOPLE", UNKNOWN, () -> put(housed(HOUSE), "301t"), x -> x.life(0));
        refusal("a LIFE without a HOUSE", UNKNOWN, () -> page("301t"), x -> x.life(0));
        refusal("the text of a HOUSE is no LIFE", STATE, () -> put(kept(), HOUSE), x -> x.life(0));
        refusal("a LIFE that is none, of one who has none", STATE, () -> put(furnished(), "306"), x -> x.life(1));
        refusal("a LIFE that may not be, by its last STEP", STATE, () -> put(kept(), "3012.0"), x -> x.life(0));
        refusal("a LIFE that may not be, of one who has none", STATE, () -> put(furnished(), "300t"), x -> x.life(1));
        refusal("45 letters are no LIFE", STATE, Bench::full, x -> x.life(0));
        refusal("nobody is told ahead of no LIFE", UNKNOWN, () -> put(kept(), "!"), x -> x.life(2));
        edge("a LIFE that a PERSON may have, and a CHILD may not", () -> {
            HourAgo x = put(childAndPerson(), "031t");
            is(STATE, x.life(0));
            is(2, x.life(1));
        });
        edge("a LIFE that may not be can be mended", 3, () -> {
            HourAgo x = put(lifeless(), "300");
            x.life(0);
            put(x, "021t");
            x.life(0);
            x.blank();
            return put(x, "031t.").life(0);
        });
    }

    private static HourAgo childAndPerson() {
        HourAgo x = housed(HOUSE);
        x.person(CHILD);
        x.person(PERSON);
        return x;
    }

    private static void about() {
        chapter("Promise 9: about");
        says("Of a PERSON: what = 0 KIND, 1 how many SELVES, 2 how often it goes through THE LOW DOOR, 3 the MINUTE, 4 "
            + "the ROOM of its last SELF (3, 4: NONE: it has no LIFE).");
        edge("without a LIFE", () -> dueAbout(furnished(), 1, CAT, 0, 0, NONE, NONE));
        edge("with a LIFE of one SELF", () -> dueAbout(lone(HOUSE, PERSON, "000"), 0, PERSON, 1, 0, 0, 0));
        edge("with a LIFE of 17 SELVES", () -> dueAbout(full(), 2, CHILD, 17, 0, 59, 1));
        edge("with a LIFE through THE LOW DOOR 8 times", () -> dueAbout(full(), 0, PERSON, 17, 8, 30, 1));
        edge("with a LIFE through THE LOW DOOR 16 times", () -> dueAbout(lone("01;01", CAT, "160" + "t".repeat(16)), 0,
            CAT, 17, 16, 0, 0));
        edge("its last SELF is in ROOM 5 in MINUTE 59", () -> dueAbout(lone(HOUSE, PERSON, "595"), 0, PERSON, 1, 0, 59,
            5));
        says("UNKNOWN; OUTSIDE.");
        refusal("about nobody", UNKNOWN, Bench::kept, x -> x.about(-1, 0), x -> x.about(2, 0));
        refusal("about a fifth of the PEOPLE", UNKNOWN, PeopleEdges::four, x -> x.about(4, 0));
        refusal("about PEOPLE at the ends of int", UNKNOWN, Bench::kept, x -> x.about(LEAST, 0), x -> x.about(MOST, 0));
        refusal("about nobody without a HOUSE", UNKNOWN, HourAgo::new, x -> x.about(0, 0));
        refusal("about: there is no what -1", OUTSIDE, Bench::kept, x -> x.about(0, -1));
        refusal("about: there is no what 5", OUTSIDE, Bench::kept, x -> x.about(0, 5));
        refusal("about: there is no what at the ends of int", OUTSIDE, Bench::kept, x -> x.about(0, LEAST),
            x -> x.about(0, MOST));
        refusal("about: there is no what 5 without a LIFE", OUTSIDE, Bench::furnished, x -> x.about(1, 5));
        refusal("about: nobody is told ahead of what", UNKNOWN, Bench::kept, x -> x.about(2, 5), x -> x.about(-1, -1));
    }

    private static void dueAbout(HourAgo x, int person, int... wants) {
        for (int what = 0; what < wants.length; what++) {
            is(wants[what], x.about(person, what));
        }
    }

    private static void as() {
        chapter("Promise 10: as");
        says("A PERSON taken as a KIND: its own number, not that of the KIND; NONE: it is none such (the cast fails).");
        for (int own = PERSON; own <= CAT; own++) {
            for (int kind = PERSON; kind <= CAT; kind++) {
                int of = own;
                int as = kind;
                boolean is = as == PERSON || as == of || of == CAT && as == CLERK;
                edge("PERSON 3, of KIND " + of + ", as KIND " + as, is ? 3 : NONE, () -> third(of).as(3, as));
            }
        }
        edge("one without a LIFE is of its KIND, too", 1, () -> furnished().as(1, CLERK));
        says("UNKNOWN; OUTSIDE.");
        refusal("nobody as a KIND", UNKNOWN, Bench::kept, x -> x.as(-1, 0), x -> x.as(2, 0));
        refusal("a fifth of the PEOPLE as a KIND", UNKNOWN, PeopleEdges::four, x -> x.as(4, 0));
        refusal("PEOPLE at the ends of int as a KIND", UNKNOWN, Bench::kept, x -> x.as(LEAST, 0), x -> x.as(MOST, 0));
        refusal("nobody without a HOUSE as a KIND", UNKNOWN, HourAgo::new, x -> x.as(0, 0));
        refusal("a PERSON as KIND -1", OUTSIDE, Bench::kept, x -> x.as(0, -1));
        refusal("a PERSON as KIND 5", OUTSIDE, Bench::kept, x -> x.as(0, 5));
        refusal("a PERSON as a KIND at the ends of int", OUTSIDE, Bench::kept, x -> x.as(0, LEAST),
            x -> x.as(0, MOST));
        refusal("as: nobody is told ahead of KIND", UNKNOWN, Bench::kept, x -> x.as(2, 5), x -> x.as(-1, -1));
    }

    private static HourAgo third(int kind) {
        HourAgo x = housed(HOUSE);
        for (int i = 0; i < 3; i++) {
            x.person((kind + 1) % 5);
        }
        x.person(kind);
        return x;
    }

    private static void self() {
        chapter("Promise 11: self");
        says("Of the so-manieth SELF (from 0): what = 0 its MINUTE, 1 its ROOM.");
        edge("SELF 0 is at its beginning", () -> dueSelf(furnished(), 0, 0, 24, 0));
        edge("SELF 4 is the last of 5", () -> dueSelf(furnished(), 0, 4, 24, 1));
        edge("SELF 3 is behind THE LOW DOOR", () -> dueSelf(furnished(), 0, 3, 23, 1));
        edge("SELF 16 is the last of 17", () -> dueSelf(full(), 2, 16, 59, 1));
        edge("SELF 0 is the only one", () -> dueSelf(lone(HOUSE, PERSON, "595"), 0, 0, 59, 5));
        edge("a SELF in MINUTE 0 in ROOM 0", () -> dueSelf(full(), 1, 0, 0, 0));
        says("UNKNOWN: person, self; OUTSIDE.");
        refusal("a SELF of nobody", UNKNOWN, Bench::kept, x -> x.self(-1, 0, 0), x -> x.self(2, 0, 0));
        refusal("a SELF of a fifth of the PEOPLE", UNKNOWN, PeopleEdges::four, x -> x.self(4, 0, 0));
        refusal("a SELF of PEOPLE at the ends of int", UNKNOWN, Bench::kept, x -> x.self(LEAST, 0, 0),
            x -> x.self(MOST, 0, 0));
        refusal("a SELF of nobody without a HOUSE", UNKNOWN, HourAgo::new, x -> x.self(0, 0, 0));
        refusal("there is no SELF -1", UNKNOWN, Bench::kept, x -> x.self(0, -1, 0));
        refusal("there is no SELF 5 of 5", UNKNOWN, Bench::kept, x -> x.self(0, 5, 0));
        refusal("there is no SELF 17 of 17", UNKNOWN, Bench::full, x -> x.self(0, 17, 0));
        refusal("there is no SELF 0 without a LIFE", UNKNOWN, Bench::furnished, x -> x.self(1, 0, 0));
        refusal("there is no SELF at the ends of int", UNKNOWN, Bench::kept, x -> x.self(0, LEAST, 0),
            x -> x.self(0, MOST, 0));
        refusal("self: there is no what -1", OUTSIDE, Bench::kept, x -> x.self(0, 0, -1));
        refusal("self: there is no what 2", OUTSIDE, Bench::kept, x -> x.self(0, 0, 2));
        refusal("self: there is no what at the ends of int", OUTSIDE, Bench::kept, x -> x.self(0, 0, LEAST),
            x -> x.self(0, 0, MOST));
        refusal("self: nobody is told ahead of what", UNKNOWN, Bench::kept, x -> x.self(2, 0, 2));
        refusal("self: no SELF is told ahead of what", UNKNOWN, Bench::kept, x -> x.self(0, 5, 2),
            x -> x.self(0, -1, -1));
    }

    private static void dueSelf(HourAgo x, int person, int self, int minute, int room) {
        is(minute, x.self(person, self, 0));
        is(room, x.self(person, self, 1));
    }

    private static void there() {
        chapter("Promise 12: there");
        says("How many SELVES of a PERSON are in a ROOM in a MINUTE.");
        edge("none is there", 0, () -> furnished().there(0, 24, 2));
        edge("one is there", 1, () -> furnished().there(0, 24, 0));
        edge("two are there", 2, () -> lone(HOUSE, PERSON, "201...t").there(0, 20, 1));
        edge("nine of 17 are there", 9, () -> full().there(0, 30, 1));
        edge("none is there in the MINUTE ahead", 0, () -> furnished().there(0, 22, 1));
        edge("none is there in the MINUTE behind", 0, () -> furnished().there(0, 27, 1));
        edge("one is in ROOM 0 in MINUTE 0", 1, () -> full().there(1, 0, 0));
        edge("one is in ROOM 5 in MINUTE 59", 1, () -> lone(HOUSE, PERSON, "595").there(0, 59, 5));
        edge("none is there without a LIFE", 0, () -> furnished().there(1, 24, 1));
        says("UNKNOWN: person, room; OUTSIDE: minute.");
        refusal("there: nobody", UNKNOWN, Bench::kept, x -> x.there(-1, 0, 0), x -> x.there(2, 0, 0));
        refusal("there: a fifth of the PEOPLE", UNKNOWN, PeopleEdges::four, x -> x.there(4, 0, 0));
        refusal("there: PEOPLE at the ends of int", UNKNOWN, Bench::kept, x -> x.there(LEAST, 0, 0),
            x -> x.there(MOST, 0, 0));
        refusal("there: nobody without a HOUSE", UNKNOWN, HourAgo::new, x -> x.there(0, 0, 0));
        refusal("there: ROOM -1", UNKNOWN, Bench::kept, x -> x.there(0, 0, -1));
        refusal("there: ROOM 6", UNKNOWN, Bench::kept, x -> x.there(0, 0, 6));
        refusal("there: ROOMS at the ends of int", UNKNOWN, Bench::kept, x -> x.there(0, 0, LEAST),
            x -> x.there(0, 0, MOST));
        refusal("there: MINUTE -1", OUTSIDE, Bench::kept, x -> x.there(0, -1, 0));
        refusal("there: MINUTE 60", OUTSIDE, Bench::kept, x -> x.there(0, 60, 0));
        refusal("there: MINUTES at the ends of int", OUTSIDE, Bench::kept, x -> x.there(0, LEAST, 0),
            x -> x.there(0, MOST, 0));
        refusal("there: MINUTE 60 of one without a LIFE", OUTSIDE, Bench::furnished, x -> x.there(1, 60, 0));
        refusal("there: nobody is told ahead of MINUTE", UNKNOWN, Bench::kept, x -> x.there(2, 60, 0));
        refusal("there: no ROOM is told ahead of MINUTE", UNKNOWN, Bench::kept, x -> x.there(0, -1, 6),
            x -> x.there(0, 60, -1));
    }

    private static void met() {
        chapter("Promise 13: met");
        says("MET: the first MINUTE; NONE: never.");
        edge("met: never", NONE, () -> lone(HOUSE, PERSON, "301....").met(0));
        edge("met: never without a LIFE", NONE, () -> lifeless().met(0));
        edge("met: the first MINUTE, not the first SELF", 27, () -> lone(HOUSE, PERSON, "301...tt...t").met(0));
        edge("met: the first of four MINUTES", 20, () -> lone(HOUSE, PERSON, "201...t...").met(0));
        edge("met: MINUTE 0", 0, () -> lone("01;11", PERSON, "001.t").met(0));
        edge("met: MINUTE 59", 59, () -> lone("01;11", PERSON, "591t.").met(0));
        edge("met: by another PERSON is not by itself", NONE, () -> {
            HourAgo x = lone(HOUSE, PERSON, "301");
            alive(x, PERSON, "301");
            return x.met(0);
        });
        says("UNKNOWN.");
        refusal("met: nobody", UNKNOWN, Bench::kept, x -> x.met(-1), x -> x.met(2));
        refusal("met: a fifth of the PEOPLE", UNKNOWN, PeopleEdges::four, x -> x.met(4));
        refusal("met: PEOPLE at the ends of int", UNKNOWN, Bench::kept, x -> x.met(LEAST), x -> x.met(MOST));
        refusal("met: nobody without a HOUSE", UNKNOWN, HourAgo::new, x -> x.met(0));
    }

    private static void most() {
        chapter("Promise 14: most");
        says("MOST: what = 0 how many (0: it has no LIFE), 1 in which MINUTE first (NONE).");
        edge("most: 0 without a LIFE", 0, () -> furnished().most(1, 0));
        edge("most: NONE without a LIFE", NONE, () -> furnished().most(1, 1));
        edge("most: one of one SELF", 1, () -> lone(HOUSE, PERSON, "000").most(0, 0));
        edge("most: MINUTE 0 of one SELF", 0, () -> lone(HOUSE, PERSON, "000").most(0, 1));
        edge("most: MINUTE 59 of one SELF", 59, () -> lone(HOUSE, PERSON, "595").most(0, 1));
        edge("most: nine of 17", 9, () -> full().most(0, 0));
        edge("most: the MINUTE of nine of 17", 30, () -> full().most(0, 1));
        edge("most: the first of 17 MINUTES of one", 43, () -> full().most(2, 1));
        says("UNKNOWN; OUTSIDE.");
        refusal("most: nobody", UNKNOWN, Bench::kept, x -> x.most(-1, 0), x -> x.most(2, 0));
        refusal("most: a fifth of the PEOPLE", UNKNOWN, PeopleEdges::four, x -> x.most(4, 0));
        refusal("most: PEOPLE at the ends of int", UNKNOWN, Bench::kept, x -> x.most(LEAST, 0), x -> x.most(MOST, 0));
        refusal("most: nobody without a HOUSE", UNKNOWN, HourAgo::new, x -> x.most(0, 0));
        refusal("most: there is no what -1", OUTSIDE, Bench::kept, x -> x.most(0, -1));
        refusal("most: there is no what 2", OUTSIDE, Bench::kept, x -> x.most(0, 2));
        refusal("most: there is no what at the ends of int", OUTSIDE, Bench::kept, x -> x.most(0, LEAST),
            x -> x.most(0, MOST));
        refusal("most: there is no what 2 without a LIFE", OUTSIDE, Bench::furnished, x -> x.most(1, 2));
        refusal("most: nobody is told ahead of what", UNKNOWN, Bench::kept, x -> x.most(2, 2), x -> x.most(-1, -1));
    }

    private static void meet() {
        chapter("Promise 15: meet");
        says("MEET; NONE.");
        edge("meet: the first of two MINUTES", 30, () -> dueMeeting("301.", "301."));
        edge("meet: MINUTE 0", 0, () -> dueMeeting("000", "000"));
        edge("meet: MINUTE 59 in ROOM 5", 59, () -> dueMeeting("595", "595"));
        edge("meet: never", NONE, () -> dueMeeting("301", "311"));
        edge("meet: one of them has no LIFE", NONE, () -> furnished().meet(1, 0));
        edge("meet: both of them have no LIFE", NONE, () -> four().meet(2, 3));
        edge("meet: the first and the fourth of the PEOPLE", 24, () -> lead(four(), 3, "240").meet(0, 3));
        says("UNKNOWN: a, b, or they are the same.");
        refusal("meet: nobody and one", UNKNOWN, Bench::kept, x -> x.meet(-1, 0), x -> x.meet(2, 0));
        refusal("meet: one and nobody", UNKNOWN, Bench::kept, x -> x.meet(0, -1), x -> x.meet(0, 2));
        refusal("meet: a fifth of the PEOPLE", UNKNOWN, PeopleEdges::four, x -> x.meet(4, 0), x -> x.meet(0, 4));
        refusal("meet: PEOPLE at the ends of int", UNKNOWN, Bench::kept, x -> x.meet(LEAST, 0), x -> x.meet(0, LEAST),
            x -> x.meet(MOST, 0), x -> x.meet(0, MOST));
        refusal("meet: one and itself", UNKNOWN, Bench::kept, x -> x.meet(0, 0), x -> x.meet(1, 1));
        refusal("meet: nobody without a HOUSE", UNKNOWN, HourAgo::new, x -> x.meet(0, 1));
    }

    private static long dueMeeting(String life, String other) {
        HourAgo x = lone(HOUSE, PERSON, life);
        alive(x, PERSON, other);
        return x.meet(0, 1);
    }

    private static void locked() {
        chapter("Promise 16: locked");
        says("LOCKED; NONE: no DOOR is gone through by anybody.");
        edge("locked: DOOR 0", 0, () -> lone(FULL_HOUSE, PERSON, "3001").locked());
        edge("locked: DOOR 9", 9, () -> lone(FULL_HOUSE, PERSON, "3023").locked());
        edge("locked: none of a HOUSE without PEOPLE", NONE, () -> housed(HOUSE).locked());
        edge("locked: none of PEOPLE without a LIFE", NONE, () -> lifeless().locked());
        edge("locked: none of a LIFE without STEPS", NONE, () -> lone(HOUSE, PERSON, "301").locked());
        edge("locked: none of a LIFE that goes through THE LOW DOOR alone", NONE, () -> lone(HOUSE, PERSON, "301t.")
            .locked());
        edge("locked: of full PEOPLE", 5, () -> full().locked());
        says("STATE: no HOUSE.");
        refusal("locked: no HOUSE", STATE, HourAgo::new, HourAgo::locked);
    }
}
