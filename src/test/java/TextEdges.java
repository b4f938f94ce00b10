/** The edges of promises 1 to 6: a new object, THE PAGE, and the HOUSE that is read from it. */
final class TextEdges extends Edges {
    static void all() {
        newObject();
        letters();
        lettersRefused();
        blank();
        faultOfHouse();
        faultOfLife();
        faultRefused();
        house();
        houseGone();
        between();
    }

    private static void newObject() {
        chapter("Promise 1: A new object");
        says("No HOUSE.");
        edge("a new object has no DOORS", 0, () -> new HourAgo().count(0));
        edge("a new object has no SIGHTS", 0, () -> new HourAgo().count(1));
        edge("a new object has no PEOPLE", 0, () -> new HourAgo().count(2));
        edge("a new object has no TASKS", 0, () -> new HourAgo().count(3));
        edge("a new object has no GLIMPSES", 0, () -> new HourAgo().count(4));
        edge("a new object has an empty PAGE", 0, () -> new HourAgo().count(5));
        edge("a new object has read no HOUSE", 0, () -> new HourAgo().count(6));
        edge("a new object has done no shortest()", 0, () -> new HourAgo().count(7));
        edge("a new object has no BACK", 0, () -> new HourAgo().count(8));
        edge("a new object has no LOW DOOR", NONE, () -> new HourAgo().count(9));
        edge("a new object has no IMAGE", STATE, () -> new HourAgo().restore());
        edge("NONE is -1", -1, () -> HourAgo.NONE);
        edge("two new objects have nothing to do with one another", 0, () -> {
            HourAgo x = new HourAgo();
            full();
            return x.count(2) + x.count(5);
        });
    }

    private static void letters() {
        chapter("Promise 2: letters");
        says("Letters come behind THE PAGE, up to eight, told by their codes in the bytes of w, the lowest byte first, "
            + "until a byte that is 0: how many THE PAGE has.");
        edge("none come of 0", 0, () -> new HourAgo().letters(0L));
        edge("one comes of the lowest byte", 1, () -> new HourAgo().letters('a'));
        edge("seven come until the highest byte, which is 0", 7, () -> new HourAgo().letters(packed("abcdefg")));
        edge("eight come of eight bytes", 8, () -> new HourAgo().letters(packed("abcdefgh")));
        edge("the lowest byte comes first", 2, () -> page("59").fault(1));
        edge("the highest byte comes last", 7, () -> page("300....!").fault(1));
        edge("letters come behind those that are there", 3, () -> {
            HourAgo x = new HourAgo();
            x.letters('3');
            x.letters('0');
            x.letters('5');
            return x.fault(1);
        });
        edge("none come behind letters that are there", 4, () -> page("abcd").letters(0L));
        edge("code 1 is a letter", 1, () -> new HourAgo().letters(1L));
        edge("code 126 is a letter", 1, () -> new HourAgo().letters(126L));
        edge("code 126 is a letter in the highest byte", 8, () -> new HourAgo().letters(0x7e7e7e7e7e7e7e7eL));
        edge("up to 45 letters, eight by eight and five", 45, () -> ofLetters(40).letters(packed("abcde")));
        edge("up to 45 letters, the last one alone", 45, () -> ofLetters(44).letters('a'));
        edge("up to 45 letters, the last eight at once", 45, () -> ofLetters(37).letters(packed("abcdefgh")));
        edge("none come behind 45 letters", 45, () -> ofLetters(45).letters(0L));
    }

    private static HourAgo ofLetters(int count) {
        return page("~".repeat(count));
    }

    private static void lettersRefused() {
        says("OUTSIDE: a byte above 126, or one behind a 0 that is not 0; FULL: above 45.");
        refusal("code 127 is no letter", OUTSIDE, () -> put(kept(), "ab"), x -> x.letters(127L));
        refusal("code 128 is no letter", OUTSIDE, () -> put(kept(), "ab"), x -> x.letters(128L));
        refusal("code 255 is no letter", OUTSIDE, () -> put(kept(), "ab"), x -> x.letters(255L));
        refusal("code 127 is no letter behind others", OUTSIDE, () -> put(kept(), "ab"),
            x -> x.letters(packed("abc") | 127L << 24));
        refusal("code 127 is no letter in the highest byte", OUTSIDE, () -> put(kept(), "ab"),
            x -> x.letters(packed("abcdefg") | 127L << 56));
        refusal("code 128 is no letter in the highest byte", OUTSIDE, () -> put(kept(), "ab"),
            x -> x.letters(packed("abcdefg") | 128L << 56));
        refusal("no letter behind a 0 in the lowest byte", OUTSIDE, () -> put(kept(), "ab"),
            x -> x.letters((long) 'a' << 8));
        refusal("no letter in the highest byte behind a 0", OUTSIDE, () -> put(kept(), "ab"),
            x -> x.letters(packed("abcdef") | (long) 'h' << 56));
        refusal("no letter of code 1 behind a 0", OUTSIDE, () -> put(kept(), "ab"), x -> x.letters('a' | 1L << 16));
        refusal("no letter behind two 0", OUTSIDE, () -> put(kept(), "ab"), x -> x.letters('a' | 1L << 24));
        refusal("the ends of long are no letters", OUTSIDE, () -> put(kept(), "ab"), x -> x.letters(Long.MIN_VALUE),
            x -> x.letters(Long.MIN_VALUE + 1), x -> x.letters(Long.MAX_VALUE), x -> x.letters(Long.MAX_VALUE - 1),
            x -> x.letters(-1L));
        refusal("a 46th letter is above 45", FULL, () -> ofLetters(45), x -> x.letters('a'));
        refusal("none of eight come if one of them is above 45", FULL, () -> ofLetters(38),
            x -> x.letters(packed("abcdefgh")));
        refusal("none of two come if one of them is above 45", FULL, () -> ofLetters(44), x -> x.letters(packed("ab")));
        refusal("a byte above 126 is told ahead of FULL", OUTSIDE, () -> ofLetters(45), x -> x.letters(127L));
        refusal("a byte behind a 0 is told ahead of FULL", OUTSIDE, () -> ofLetters(45),
            x -> x.letters('a' | 1L << 16));
        edge("as many as fit come behind a refusal", 45, () -> {
            HourAgo x = ofLetters(44);
            x.letters(packed("ab"));
            return x.letters('a');
        });
    }

    private static void blank() {
        chapter("Promise 3: blank");
        says("THE PAGE is empty: how many letters it had.");
        edge("a new PAGE had none", 0, () -> new HourAgo().blank());
        edge("a PAGE of one letter", 1, () -> page("a").blank());
        edge("a PAGE of 45 letters", 45, () -> ofLetters(45).blank());
        edge("an emptied PAGE has none", 0, () -> {
            HourAgo x = ofLetters(45);
            x.blank();
            return x.blank();
        });
        edge("an emptied PAGE is read from its start", 3, () -> {
            HourAgo x = ofLetters(45);
            x.blank();
            return put(x, "305").fault(1);
        });
        edge("an emptied PAGE takes 45 letters again", 45, () -> {
            HourAgo x = ofLetters(45);
            x.blank();
            return put(x, "a".repeat(45)).count(5);
        });
        edge("all but THE PAGE stays", () -> {
            HourAgo x = put(kept(), "abc");
            x.blank();
            isAs(kept(), x);
        });
    }

    private static void fault(String name, int place, String text) {
        edge(name, () -> {
            HourAgo x = page(text);
            is(place, x.fault(0));
            is(text.length(), x.count(5));
        });
    }

    private static void faultOfHouse() {
        chapter("Promise 4: fault");
        says("The place (from 0) of the first letter of THE PAGE that no HOUSE (sort 0), LIFE (1: by its letters "
            + "alone) has there, behind those ahead of it (a first digit of a pair may stand though all its pairs are "
            + "told); how many letters it has, if there is none.");
        fault("HOUSE: no fault in an empty PAGE", 0, "");
        fault("HOUSE: no fault in its first digit 0", 1, "0");
        fault("HOUSE: no fault in its first digit 5", 1, "5");
        fault("HOUSE: a fault in its first digit 6", 0, "6");
        fault("HOUSE: a fault in a letter ahead of the digits", 0, "/");
        fault("HOUSE: a fault in its first letter ;", 0, ";");
        fault("HOUSE: a fault in a like second digit", 1, "00");
        fault("HOUSE: a fault in a second digit 6", 1, "06");
        fault("HOUSE: no fault in one DOOR", 2, "05");
        fault("HOUSE: a fault in a third digit", 2, "012");
        fault("HOUSE: no fault in , behind a DOOR", 3, "01,");
        fault("HOUSE: a fault in two ,", 3, "01,,");
        fault("HOUSE: a fault in ; behind ,", 3, "01,;");
        fault("HOUSE: a fault in the second digit of a DOOR told twice", 4, "01,01");
        fault("HOUSE: a fault in the second digit of a DOOR told twice, the other way round", 4, "01,10;11");
        fault("HOUSE: no fault in a first digit all of whose pairs are told", 16, "01,02,03,04,05,0");
        fault("HOUSE: a fault in each second digit behind that", 16, "01,02,03,04,05,05");
        fault("HOUSE: no fault in ten DOORS", 29, TEN_DOORS);
        fault("HOUSE: a fault in , behind ten DOORS", 29, TEN_DOORS + ",24");
        fault("HOUSE: no fault in , behind nine DOORS", 27, TEN_DOORS.substring(0, 27));
        fault("HOUSE: no fault in ; behind the DOORS", 3, "01;");
        fault("HOUSE: no fault in THE LOW DOOR's ROOM 0", 4, "01;0");
        fault("HOUSE: no fault in THE LOW DOOR's ROOM 5", 4, "01;5");
        fault("HOUSE: a fault in THE LOW DOOR's ROOM 6", 3, "01;6");
        fault("HOUSE: a fault in BACK 0", 4, "01;50");
        fault("HOUSE: no fault in BACK 1", 5, "01;51");
        fault("HOUSE: no fault in BACK 9", 5, "01;59");
        fault("HOUSE: a fault in the letter behind 9 as BACK", 4, "01;5:");
        fault("HOUSE: a fault in , behind BACK", 5, "01;59,");
        fault("HOUSE: a fault in a second digit of BACK", 5, "01;599");
        fault("HOUSE: no fault in ; behind BACK", 6, "01;59;");
        fault("HOUSE: a fault in two ;", 6, "01;59;;");
        fault("HOUSE: a fault in the first digit 6 of a SIGHT", 6, "01;59;6");
        fault("HOUSE: a fault in a like second digit of a SIGHT", 7, "01;59;11");
        fault("HOUSE: a fault in a second digit 6 of a SIGHT", 7, "01;59;16");
        fault("HOUSE: no fault in a SIGHT that is a DOOR, too", 8, "01;59;01");
        fault("HOUSE: a fault in a SIGHT told twice", 10, "01;59;01,01");
        fault("HOUSE: a fault in a SIGHT told twice, the other way round", 10, "01;59;01,10");
        fault("HOUSE: a fault in ; behind a SIGHT", 8, "01;59;01;");
        fault("HOUSE: no fault in four SIGHTS", 17, "01;59;01,02,03,04");
        fault("HOUSE: a fault in , behind four SIGHTS", 17, "01;59;01,02,03,04,");
        fault("HOUSE: no fault in the longest one of 44 letters", 44, FULL_HOUSE);
        fault("HOUSE: a fault in the last of 45 letters", 44, FULL_HOUSE + ",");
        fault("HOUSE: the first of two faults", 1, "0002;99");
        fault("HOUSE: a fault in the first of 45 letters", 0, "~".repeat(45));
        edge("HOUSE: the one that stands has no part in it", 14, () -> put(kept(), HOUSE).fault(0));
    }

    private static void lifeFault(String name, int place, String text) {
        edge(name, () -> {
            HourAgo x = page(text);
            is(place, x.fault(1));
            is(text.length(), x.count(5));
        });
    }

    private static void faultOfLife() {
        lifeFault("LIFE: no fault in an empty PAGE", 0, "");
        lifeFault("LIFE: no fault in its tens 0", 1, "0");
        lifeFault("LIFE: no fault in its tens 5", 1, "5");
        lifeFault("LIFE: a fault in its tens 6, as no MINUTE has them", 0, "6");
        lifeFault("LIFE: a fault in its tens 9, as no MINUTE has them", 0, "99");
        lifeFault("LIFE: a fault in a letter instead of its tens", 0, ".");
        lifeFault("LIFE: no fault in its second digit 0", 2, "50");
        lifeFault("LIFE: no fault in its second digit 9", 2, "59");
        lifeFault("LIFE: a fault in the letter behind 9 instead of its second digit", 1, "5:");
        lifeFault("LIFE: a fault in the letter ahead of 0 instead of its second digit", 1, "5/");
        lifeFault("LIFE: a fault in a STEP instead of its second digit", 1, "5t");
        lifeFault("LIFE: no fault in its ROOM 0", 3, "590");
        lifeFault("LIFE: no fault in its ROOM 5", 3, "595");
        lifeFault("LIFE: a fault in its ROOM 6", 2, "596");
        lifeFault("LIFE: a fault in a letter instead of its ROOM", 2, "59.");
        lifeFault("LIFE: no fault in each STEP, though it may not be", 11, "590012345.t");
        lifeFault("LIFE: a fault in a STEP 6", 3, "5906");
        lifeFault("LIFE: a fault in a STEP /, between . and 0", 3, "590/");
        lifeFault("LIFE: a fault in a STEP ,", 3, "590,");
        lifeFault("LIFE: a fault in a STEP T", 3, "590T");
        lifeFault("LIFE: no fault in sixteen STEPS", 19, "000" + "t".repeat(16));
        lifeFault("LIFE: a fault in the sixteenth STEP", 18, "000" + ".".repeat(15) + "!");
        lifeFault("LIFE: a fault in a seventeenth STEP", 19, "000" + ".".repeat(17));
        lifeFault("LIFE: the first of two faults", 2, "59!!");
        edge("LIFE: no HOUSE is needed", 4, () -> page("301t").fault(1));
    }

    private static void faultRefused() {
        says("OUTSIDE.");
        refusal("there is no sort -1", OUTSIDE, () -> put(kept(), "01"), x -> x.fault(-1));
        refusal("there is no sort 2", OUTSIDE, () -> put(kept(), "01"), x -> x.fault(2));
        refusal("there is no sort at the ends of int", OUTSIDE, () -> put(kept(), "01"), x -> x.fault(LEAST),
            x -> x.fault(MOST));
        refusal("there is no sort 2 of an empty PAGE", OUTSIDE, HourAgo::new, x -> x.fault(2));
        edge("fault(0) changes nothing", () -> {
            HourAgo x = put(kept(), "45;19");
            is(5, x.fault(0));
            isAs(put(kept(), "45;19"), x);
        });
        edge("fault(1) changes nothing", () -> {
            HourAgo x = put(kept(), "595");
            is(3, x.fault(1));
            isAs(put(kept(), "595"), x);
        });
    }

    private static void house() {
        chapter("Promise 5: house");
        says("THE PAGE is read as THE HOUSE (another one is gone, with PEOPLE, TASKS, GLIMPSES): how many DOORS; THE "
            + "PAGE is empty then.");
        edge("the first HOUSE of an object, of one DOOR", 1, () -> page("45;09").house());
        edge("the first HOUSE of an object, of ten DOORS", 10, () -> page(FULL_HOUSE).house());
        edge("THE PAGE is empty behind a HOUSE", 0, () -> housed(FULL_HOUSE).count(5));
        edge("THE PAGE takes 45 letters behind a HOUSE", 45, () -> put(housed(FULL_HOUSE), "a".repeat(45)).count(5));
        edge("a HOUSE of the text of the one that stands is another", () -> {
            HourAgo x = put(kept(), HOUSE);
            is(3, x.house());
            is(2, x.count(6));
            is(0, x.count(2));
        });
    }

    /** A HOUSE of one DOOR, read where a full one stood. */
    private static HourAgo another() {
        HourAgo x = full();
        x.blank();
        put(x, "45;59");
        x.house();
        return x;
    }

    private static void houseGone() {
        edge("another one's DOORS are gone", 0, () -> another().between(0, 1));
        edge("another one's SIGHTS are gone", 0, () -> another().count(1));
        edge("another one's LOW DOOR is gone", 5, () -> another().count(9));
        edge("another one's BACK is gone", 9, () -> another().count(8));
        edge("the DOORS are numbered anew", 0, () -> {
            HourAgo x = another();
            alive(x, CAT, "3045");
            return x.locked();
        });
        edge("all PEOPLE are gone", UNKNOWN, () -> another().about(0, 0));
        edge("PEOPLE are numbered anew", 0, () -> another().person(CAT));
        edge("all TASKS are gone", 0, () -> another().count(3));
        edge("TASKS are numbered anew", 0, () -> another().task(0, 0, 0));
        edge("all GLIMPSES are gone", 0, () -> another().forget());
        edge("GLIMPSES are counted anew", 1, () -> another().glimpse(0, 0));
        says("STATE: it is none.");
        refusal("an empty PAGE is none, where no HOUSE stands", STATE, HourAgo::new, HourAgo::house);
        refusal("an empty PAGE is none, where a HOUSE stands", STATE, Bench::kept, HourAgo::house);
        refusal("the text of a LIFE is none", STATE, () -> put(kept(), "301t"), HourAgo::house);
        refusal("a HOUSE but for its last letter is none", STATE, () -> page("01;1"), HourAgo::house);
        refusal("a HOUSE and one letter more is none", STATE, () -> page("01;11!"), HourAgo::house);
        refusal("45 letters are none", STATE, Bench::full, HourAgo::house);
        edge("a HOUSE that is refused is not read", 0, () -> {
            HourAgo x = page("01");
            x.house();
            return x.count(6);
        });
        edge("what is refused can be mended", 1, () -> {
            HourAgo x = page("01;1");
            x.house();
            return put(x, "1").house();
        });
    }

    private static void between() {
        chapter("Promise 6: between");
        says("What there is between two ROOMS: a DOOR (1), a SIGHT (2), both (3), neither (0).");
        edge("neither is between them", 0, () -> housed("01,12;11;02,01").between(4, 5));
        edge("a DOOR is between them", 1, () -> housed("01,12;11;02,01").between(1, 2));
        edge("a SIGHT is between them", 2, () -> housed("01,12;11;02,01").between(2, 0));
        edge("both are between them", 3, () -> housed("01,12;11;02,01").between(1, 0));
        edge("the tenth DOOR is between them", 1, () -> housed(FULL_HOUSE).between(3, 2));
        edge("the fourth SIGHT is between them", 3, () -> housed(FULL_HOUSE).between(4, 0));
        edge("THE LOW DOOR is between none", 0, () -> housed("01;23").between(2, 3));
        says("UNKNOWN: a, b, or they are the same; STATE: no HOUSE.");
        refusal("ROOM -1 and another", UNKNOWN, Bench::kept, x -> x.between(-1, 0), x -> x.between(0, -1));
        refusal("ROOM 6 and another", UNKNOWN, Bench::kept, x -> x.between(6, 0), x -> x.between(0, 6));
        refusal("ROOMS at the ends of int", UNKNOWN, Bench::kept, x -> x.between(LEAST, 0), x -> x.between(0, LEAST),
            x -> x.between(MOST, 0), x -> x.between(0, MOST), x -> x.between(LEAST, MOST));
        refusal("ROOM 0 and itself", UNKNOWN, Bench::kept, x -> x.between(0, 0));
        refusal("ROOM 5 and itself", UNKNOWN, Bench::kept, x -> x.between(5, 5));
        refusal("two ROOMS of no HOUSE", STATE, HourAgo::new, x -> x.between(0, 1), x -> x.between(5, 0));
        refusal("no ROOM is told ahead of no HOUSE", UNKNOWN, HourAgo::new, x -> x.between(6, 0),
            x -> x.between(0, -1));
        refusal("the same ROOM is told ahead of no HOUSE", UNKNOWN, HourAgo::new, x -> x.between(3, 3));
    }
}
