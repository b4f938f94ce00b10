/** What the tests share: objects made ready by their texts, and answers held against those that are due. */
abstract class Bench {
    static final int NONE = HourAgo.NONE, UNKNOWN = HourAgo.UNKNOWN, OUTSIDE = HourAgo.OUTSIDE,
        STATE = HourAgo.STATE, FULL = HourAgo.FULL;
    static final int PERSON = 0, BLIND = 1, CHILD = 2, CLERK = 3, CAT = 4;
    static final int LEAST = Integer.MIN_VALUE, MOST = Integer.MAX_VALUE;
    /** DOORS 0-1, 1-2, 2-3; THE LOW DOOR in 1, back 3; one sees between 0 and 2. */
    static final String HOUSE = "01,12,23;13;02";
    static final String TEN_DOORS = "01,02,03,04,05,12,13,14,15,23";
    /** The longest text of a HOUSE: 44 letters. THE LOW DOOR in 1, back 1. */
    static final String FULL_HOUSE = TEN_DOORS + ";11;01,02,03,04";

    private static int wrong = 0;

    static void due(String call, long got, long want) {
        if (got != want) {
            wrong++;
            System.out.println(call + ": answered " + got + ", due is " + want);
        }
    }

    static void finish() {
        System.out.println(wrong == 0 ? "all answers are as due" : wrong + " answers are not as due");
        if (wrong != 0) {
            System.exit(1);
        }
    }

    static long packed(String text) {
        long w = 0;
        for (int i = 0; i < text.length(); i++) {
            w |= (long) text.charAt(i) << 8 * i;
        }
        return w;
    }

    static HourAgo put(HourAgo x, String text) {
        for (int i = 0; i < text.length(); i += 8) {
            x.letters(packed(text.substring(i, Math.min(text.length(), i + 8))));
        }
        return x;
    }

    static HourAgo page(String text) {
        return put(new HourAgo(), text);
    }

    static HourAgo housed(String text) {
        HourAgo x = page(text);
        due("house " + text, x.house() > 0 ? 1 : 0, 1);
        return x;
    }

    /** A PERSON of that KIND with that LIFE: its number. */
    static int alive(HourAgo x, int kind, String life) {
        int person = x.person(kind);
        lead(x, person, life);
        return person;
    }

    static HourAgo lead(HourAgo x, int person, String life) {
        put(x, life);
        due("life " + life, x.life(person) > 0 ? 1 : 0, 1);
        return x;
    }

    /** A HOUSE with one PERSON of that KIND, who has that LIFE. */
    static HourAgo lone(String house, int kind, String life) {
        HourAgo x = housed(house);
        alive(x, kind, life);
        return x;
    }

    /** A HOUSE with one PERSON who has no LIFE. */
    static HourAgo lifeless() {
        HourAgo x = housed(HOUSE);
        x.person(PERSON);
        return x;
    }

    /** A PERSON with a LIFE through THE LOW DOOR, a CAT without one, a TASK, two GLIMPSES; no IMAGE. */
    static HourAgo furnished() {
        HourAgo x = housed(HOUSE);
        alive(x, PERSON, "240.1t.");
        x.person(CAT);
        x.task(1, 23, 23);
        x.glimpse(23, 1);
        x.glimpse(24, 1);
        return x;
    }

    /** Like that, and an IMAGE that is another than how it is now. */
    static HourAgo kept() {
        HourAgo x = furnished();
        x.image();
        lead(x, 1, "302..");
        x.task(2, 31, 31);
        x.glimpse(24, 1);
        return x;
    }

    /** As much of all as an object holds, and an IMAGE of it; shortest() was not done. */
    static HourAgo full() {
        HourAgo x = housed(FULL_HOUSE);
        alive(x, PERSON, "301" + ".t".repeat(8));
        alive(x, BLIND, "000" + ".".repeat(16));
        alive(x, CHILD, "431" + ".".repeat(16));
        alive(x, CAT, "201" + "21".repeat(8));
        for (int minute = 0; minute < 5; minute++) {
            x.task(0, minute, minute);
        }
        for (int i = 0; i < 8; i++) {
            x.glimpse(30 + i % 2, 1);
        }
        x.image();
        return put(x, "~".repeat(45));
    }

    /** shortest() was done 30 times. */
    static HourAgo tired() {
        HourAgo x = housed(HOUSE);
        x.task(1, 0, 59);
        for (int i = 0; i < 30; i++) {
            x.shortest(PERSON, 30, 1, 1, 0);
        }
        return x;
    }

    static long mixed(long begun, long... numbers) {
        long h = begun;
        for (long number : numbers) {
            h = 31 * h + number;
        }
        return h;
    }

    /** The SEED after so many DRAWS. */
    static long drawn(long seed, int times) {
        long next = seed;
        for (int i = 0; i < times; i++) {
            next = (1103515245L * next + 12345L) % (1L << 31);
        }
        return next;
    }
}
