/** One test per promise of the document: ordinary inputs, the edges that it names, and wrong inputs. */
public final class HourAgoTest extends Bench {
    public static void main(String[] args) {
        promise1NewObject();
        promise2Letters();
        promise3Blank();
        promise4FaultOfHouse();
        promise4FaultOfLife();
        promise5House();
        promise6Between();
        promise7Person();
        promise8Life();
        promise9About();
        promise10As();
        promise11Self();
        promise12There();
        promise13Met();
        promise14Most();
        promise15Meet();
        promise16Locked();
        promise17Task();
        promise18Done();
        promise19Shortest();
        promise19ShortestMet();
        promise19ShortestRefusals();
        promise20Glimpse();
        promise21Forget();
        promise22Whose();
        promise23Pair();
        promise24Lives();
        promise25Image();
        promise26Restore();
        promise27Count();
        promise28Digest();
        finish();
    }

    private static void promise1NewObject() {
        HourAgo x = new HourAgo();
        due("1 doors", x.count(0), 0);
        due("1 people", x.count(2), 0);
        due("1 letters", x.count(5), 0);
        due("1 houses", x.count(6), 0);
        due("1 back", x.count(8), 0);
        due("1 low room", x.count(9), NONE);
        due("1 between", x.between(0, 1), STATE);
        due("1 NONE", NONE, -1);
        due("1 UNKNOWN", UNKNOWN, -101);
        due("1 OUTSIDE", OUTSIDE, -102);
        due("1 STATE", STATE, -103);
        due("1 FULL", FULL, -104);
    }

    private static void promise2Letters() {
        HourAgo x = new HourAgo();
        due("2 none", x.letters(0L), 0);
        due("2 one", x.letters(1L), 1);
        due("2 the lowest byte first", x.letters(packed("23;1")), 5);
        due("2 126", x.letters(126L), 6);
        due("2 127", x.letters(127L), OUTSIDE);
        due("2 a high byte", x.letters(-1L), OUTSIDE);
        due("2 the highest byte", x.letters(0x8041414141414141L), OUTSIDE);
        due("2 behind a 0", x.letters(0x4100L), OUTSIDE);
        due("2 behind a 0, far", x.letters(0x4100000000000041L), OUTSIDE);
        due("2 nothing changed", x.count(5), 6);
        x.blank();
        for (int i = 1; i <= 5; i++) {
            due("2 eight", x.letters(packed("........")), 8 * i);
        }
        due("2 six are too many", x.letters(packed("......")), FULL);
        due("2 OUTSIDE is ahead of FULL", x.letters(packed(".....") | 127L << 40), OUTSIDE);
        due("2 to 45", x.letters(packed(".....")), 45);
        due("2 none more", x.letters(0L), 45);
        due("2 above 45", x.letters(packed(".")), FULL);
        due("2 still 45", x.count(5), 45);
    }

    private static void promise3Blank() {
        HourAgo x = new HourAgo();
        due("3 empty", x.blank(), 0);
        put(x, "0123456789");
        due("3 ten", x.blank(), 10);
        due("3 gone", x.blank(), 0);
        due("3 from its start again", x.letters(packed("abc")), 3);
    }

    private static void promise4FaultOfHouse() {
        dueFault(0, "", 0);
        dueFault(0, HOUSE, 14);
        dueFault(0, "6", 0);
        dueFault(0, ";", 0);
        dueFault(0, "00", 1);
        dueFault(0, "05", 2);
        dueFault(0, "0;", 1);
        dueFault(0, "01,01", 4);
        dueFault(0, "01,10", 4);
        dueFault(0, "01,0", 4);
        dueFault(0, "01,02,03,04,05,0", 16);
        dueFault(0, "01,02,03,04,05,02", 16);
        dueFault(0, "01.", 2);
        dueFault(0, "01,", 3);
        dueFault(0, "01,;", 3);
        dueFault(0, "01;6", 3);
        dueFault(0, "01;50", 4);
        dueFault(0, "01;59", 5);
        dueFault(0, "01;59,", 5);
        dueFault(0, "01;599", 5);
        dueFault(0, "01;59;", 6);
        dueFault(0, "01;59;;", 6);
        dueFault(0, "01;59;01", 8);
        dueFault(0, "01;59;11", 7);
        dueFault(0, "01;59;01;", 8);
        dueFault(0, "01;59;01,10", 10);
        dueFault(0, "01;59;01,02,03,04", 17);
        dueFault(0, "01;59;01,02,03,04,", 17);
        dueFault(0, TEN_DOORS, 29);
        dueFault(0, TEN_DOORS + ",", 29);
        dueFault(0, TEN_DOORS + ";11;01,02,03,04", 44);
        dueFault(0, TEN_DOORS + ";11;01,02,03,04,", 44);
        HourAgo x = page("01");
        due("4 no sort -1", x.fault(-1), OUTSIDE);
        due("4 no sort 2", x.fault(2), OUTSIDE);
        due("4 no such sort", x.fault(LEAST), OUTSIDE);
        due("4 THE PAGE stays", x.count(5), 2);
    }

    private static void promise4FaultOfLife() {
        dueFault(1, "", 0);
        dueFault(1, "5", 1);
        dueFault(1, "6", 0);
        dueFault(1, "59", 2);
        dueFault(1, "5t", 1);
        dueFault(1, "596", 2);
        dueFault(1, "59.", 2);
        dueFault(1, "595", 3);
        dueFault(1, "000ttt", 6);
        dueFault(1, "595.5t6", 6);
        dueFault(1, "595,", 3);
        dueFault(1, "000................", 19);
        dueFault(1, "000.................", 19);
    }

    private static void dueFault(int sort, String text, int place) {
        due("4 fault(" + sort + ") of " + text, page(text).fault(sort), place);
    }

    private static void promise5House() {
        HourAgo x = page(HOUSE);
        due("5 doors", x.house(), 3);
        due("5 THE PAGE is empty", x.count(5), 0);
        due("5 nothing on THE PAGE", x.house(), STATE);
        due("5 one", page("45;09").house(), 1);
        due("5 ten", page(TEN_DOORS + ";51;01,02,03,04").house(), 10);
        for (String none : new String[] {"", "01", "01,", "01;", "01;0", "01;00", "01;11;", "01;11;0", "01;11;01,",
            "01;11;01,10", "01,10;11", "06;11", "01;11 ", TEN_DOORS + ",24;11", "01;11;01,02,03,04,05"}) {
            HourAgo y = furnished();
            put(y, none);
            due("5 none: " + none, y.house(), STATE);
            due("5 THE PAGE stays: " + none, y.count(5), none.length());
            due("5 the old one stays: " + none, y.between(0, 2), 2);
            due("5 and PEOPLE: " + none, y.count(2), 2);
        }
        HourAgo y = furnished();
        y.image();
        put(y, "45;52");
        due("5 another", y.house(), 1);
        due("5 PEOPLE are gone", y.count(2), 0);
        due("5 TASKS are gone", y.count(3), 0);
        due("5 GLIMPSES are gone", y.count(4), 0);
        due("5 its DOORS are gone", y.between(0, 1), 0);
        due("5 its SIGHTS are gone", y.between(0, 2), 0);
        due("5 its DOOR came", y.between(5, 4), 1);
        due("5 its ROOM", y.count(9), 5);
        due("5 a PERSON anew", y.person(PERSON), 0);
        due("5 has no LIFE", y.about(0, 1), 0);
    }

    private static void promise6Between() {
        HourAgo x = page("01,12;11;02,01");
        due("6 no ROOM goes ahead of no HOUSE", x.between(0, 6), UNKNOWN);
        due("6 no HOUSE", x.between(0, 1), STATE);
        x.house();
        due("6 both", x.between(1, 0), 3);
        due("6 a DOOR", x.between(2, 1), 1);
        due("6 a SIGHT", x.between(2, 0), 2);
        due("6 neither", x.between(4, 5), 0);
        due("6 the same", x.between(5, 5), UNKNOWN);
        due("6 a", x.between(-1, 0), UNKNOWN);
        due("6 b", x.between(0, MOST), UNKNOWN);
    }

    private static void promise7Person() {
        HourAgo x = page(HOUSE);
        due("7 kind goes ahead of no HOUSE", x.person(5), OUTSIDE);
        due("7 no HOUSE", x.person(0), STATE);
        x.house();
        due("7 no kind", x.person(-1), OUTSIDE);
        for (int i = 0; i < 4; i++) {
            due("7 its number", x.person(4 - i), i);
            due("7 without a LIFE", x.about(i, 1), 0);
        }
        due("7 OUTSIDE is ahead of FULL", x.person(5), OUTSIDE);
        due("7 above four", x.person(0), FULL);
        due("7 four", x.count(2), 4);
    }

    private static void promise8Life() {
        HourAgo x = housed(HOUSE);
        put(x, "590");
        due("8 nobody", x.life(0), UNKNOWN);
        due("8 THE PAGE stays", x.count(5), 3);
        x.blank();
        x.person(PERSON);
        x.person(CHILD);
        due("8 no PERSON", x.life(2), UNKNOWN);
        due("8 -1", x.life(-1), UNKNOWN);
        dueLife(x, 0, "590", 1);
        dueLife(x, 0, "000................", 17);
        dueLife(x, 0, "031t", 2);
        dueLife(x, 0, "580.", 2);
        dueLife(x, 0, "201210", 4);
        dueLife(x, 0, "031.t.", 4);
        dueLife(x, 1, "041t", 2);
        for (String none : new String[] {"", "2", "20", "600", "206", "20.", "200!", "200.................", "590.",
            "021t", "200t", "2003", "2000", "201121", "2004"}) {
            put(x, none);
            due("8 none: " + none, x.life(0), STATE);
            due("8 THE PAGE stays: " + none, x.blank(), none.length());
        }
        due("8 the last LIFE stays", x.about(0, 1), 4);
        put(x, "031t");
        due("8 a CHILD goes one more", x.life(1), STATE);
        x.blank();
        dueLife(x, 0, "001", 1);
        due("8 another one is gone", x.about(0, 2), 0);
        HourAgo y = page("300");
        due("8 no HOUSE", y.life(0), UNKNOWN);
    }

    private static void dueLife(HourAgo x, int person, String text, int selves) {
        put(x, text);
        due("8 life " + text, x.life(person), selves);
        due("8 THE PAGE is empty behind " + text, x.count(5), 0);
    }

    private static void promise9About() {
        HourAgo x = housed(HOUSE);
        alive(x, CHILD, "201t.2.1tt");
        x.person(CAT);
        dueRow("9 of a CHILD", what -> x.about(0, what), OUTSIDE, 2, 8, 3, 12, 1, OUTSIDE);
        dueRow("9 without a LIFE", what -> x.about(1, what), OUTSIDE, 4, 0, 0, NONE, NONE, OUTSIDE);
        due("9 nobody", x.about(2, 0), UNKNOWN);
        due("9 UNKNOWN is ahead of OUTSIDE", x.about(-1, 9), UNKNOWN);
        due("9 no what", x.about(0, LEAST), OUTSIDE);
    }

    private static void promise10As() {
        for (int own = PERSON; own <= CAT; own++) {
            HourAgo x = housed(HOUSE);
            x.person(PERSON);
            x.person(own);
            for (int kind = PERSON; kind <= CAT; kind++) {
                boolean is = kind == PERSON || kind == own || kind == CLERK && own == CAT;
                due("10 " + own + " as " + kind, x.as(1, kind), is ? 1 : NONE);
            }
            due("10 no kind 5", x.as(1, 5), OUTSIDE);
            due("10 no kind -1", x.as(1, -1), OUTSIDE);
            due("10 nobody", x.as(2, 0), UNKNOWN);
            due("10 UNKNOWN is ahead of OUTSIDE", x.as(LEAST, 5), UNKNOWN);
        }
    }

    private static void promise11Self() {
        HourAgo x = housed(HOUSE);
        alive(x, PERSON, "2012.1t");
        x.person(PERSON);
        int[] minutes = {20, 21, 22, 23, 20};
        int[] rooms = {1, 2, 2, 1, 1};
        for (int i = 0; i < minutes.length; i++) {
            due("11 minute " + i, x.self(0, i, 0), minutes[i]);
            due("11 room " + i, x.self(0, i, 1), rooms[i]);
        }
        due("11 none behind", x.self(0, 5, 0), UNKNOWN);
        due("11 none ahead", x.self(0, -1, 0), UNKNOWN);
        due("11 no LIFE", x.self(1, 0, 0), UNKNOWN);
        due("11 nobody", x.self(2, 0, 0), UNKNOWN);
        due("11 no what", x.self(0, 0, 2), OUTSIDE);
        due("11 no what -1", x.self(0, 0, -1), OUTSIDE);
        due("11 UNKNOWN is ahead of OUTSIDE", x.self(0, 17, 2), UNKNOWN);
    }

    private static void promise12There() {
        HourAgo x = housed(HOUSE);
        alive(x, PERSON, "201...t..");
        x.person(BLIND);
        due("12 one", x.there(0, 23, 1), 1);
        due("12 two", x.there(0, 20, 1), 2);
        due("12 elsewhere", x.there(0, 20, 2), 0);
        due("12 never", x.there(0, 59, 1), 0);
        due("12 no LIFE", x.there(1, 20, 1), 0);
        due("12 nobody", x.there(2, 20, 1), UNKNOWN);
        due("12 no ROOM", x.there(0, 20, 6), UNKNOWN);
        due("12 no MINUTE", x.there(0, 60, 1), OUTSIDE);
        due("12 no MINUTE -1", x.there(0, -1, 1), OUTSIDE);
        due("12 UNKNOWN is ahead of OUTSIDE", x.there(0, -1, -1), UNKNOWN);
    }

    private static void promise13Met() {
        String same = "201...t.";
        due("13 a PERSON", metBy(PERSON, same), 20);
        due("13 a BLIND", metBy(BLIND, same), 20);
        due("13 a CHILD", metBy(CHILD, "201....t."), 20);
        due("13 a CLERK never", metBy(CLERK, same), NONE);
        due("13 a CAT never", metBy(CAT, same), NONE);
        due("13 in the next room", metBy(PERSON, "1012.1.t"), NONE);
        String seen = "1012.1.t0";
        due("13 a PERSON sees", metBy(PERSON, seen), 12);
        due("13 a CHILD sees", metBy(CHILD, "1012.1..t0"), 12);
        due("13 a BLIND sees nothing", metBy(BLIND, seen), NONE);
        due("13 a CLERK sees nobody", metBy(CLERK, seen), NONE);
        due("13 the first MINUTE, not the first SELF", metBy(PERSON, "301...tt...t"), 27);
        due("13 once is never", metBy(PERSON, "301......"), NONE);
        due("13 no LIFE", metBy(PERSON, ""), NONE);
        HourAgo x = housed(HOUSE);
        due("13 nobody", x.met(0), UNKNOWN);
        due("13 -1", x.met(-1), UNKNOWN);
    }

    private static int metBy(int kind, String life) {
        HourAgo x = housed(HOUSE);
        if (life.isEmpty()) {
            x.person(kind);
        } else {
            alive(x, kind, life);
        }
        return x.met(0);
    }

    private static void promise14Most() {
        HourAgo x = housed(HOUSE);
        alive(x, PERSON, "201...t...t");
        alive(x, CLERK, "301");
        x.person(CLERK);
        alive(x, CAT, "301.t.t");
        due("14 how many", x.most(0, 0), 3);
        due("14 the first", x.most(0, 1), 20);
        due("14 one", x.most(1, 0), 1);
        due("14 its only one", x.most(1, 1), 30);
        due("14 no LIFE", x.most(2, 0), 0);
        due("14 no LIFE, when", x.most(2, 1), NONE);
        due("14 of like ones the first", x.most(3, 1), 26);
        HourAgo y = housed(HOUSE);
        alive(y, PERSON, "201...t...");
        due("14 four MINUTES of two", y.most(0, 1), 20);
        HourAgo z = housed(HOUSE);
        alive(z, PERSON, "301...tt..t.");
        due("14 the first MINUTE, not the first SELF", z.most(0, 1), 27);
        due("14 no what", x.most(0, 2), OUTSIDE);
        due("14 no what -1", x.most(0, -1), OUTSIDE);
        due("14 nobody", x.most(4, 0), UNKNOWN);
        due("14 UNKNOWN is ahead of OUTSIDE", x.most(4, 2), UNKNOWN);
    }

    private static void promise15Meet() {
        HourAgo x = housed(HOUSE);
        alive(x, PERSON, "301..t..");
        alive(x, CLERK, "2912");
        alive(x, CAT, "290.1");
        x.person(PERSON);
        due("15 the first MINUTE of all", x.meet(0, 1), 29);
        due("15 the other way", x.meet(1, 0), 29);
        due("15 in the same ROOM", x.meet(0, 2), 31);
        due("15 never", x.meet(1, 2), NONE);
        due("15 no LIFE", x.meet(0, 3), NONE);
        HourAgo y = housed(HOUSE);
        alive(y, CAT, "301.t");
        alive(y, CLERK, "281..");
        due("15 the first MINUTE, not the first SELF", y.meet(0, 1), 28);
        due("15 the same", x.meet(1, 1), UNKNOWN);
        due("15 a", x.meet(4, 0), UNKNOWN);
        due("15 b", x.meet(0, -1), UNKNOWN);
    }

    private static void promise16Locked() {
        HourAgo x = new HourAgo();
        due("16 no HOUSE", x.locked(), STATE);
        put(x, HOUSE);
        x.house();
        due("16 nobody", x.locked(), NONE);
        alive(x, PERSON, "301.");
        due("16 no DOOR", x.locked(), NONE);
        alive(x, PERSON, "302323232");
        due("16 one's", x.locked(), 2);
        alive(x, PERSON, "3021");
        due("16 of like ones the least", x.locked(), 1);
        alive(x, PERSON, "303232");
        due("16 most PEOPLE", x.locked(), 2);
        HourAgo y = housed(HOUSE);
        alive(y, PERSON, "30123");
        due("16 two DOORS of one LIFE", y.locked(), 1);
        alive(y, PERSON, "30232323");
        alive(y, PERSON, "3001");
        alive(y, PERSON, "3010");
        due("16 not most STEPS", y.locked(), 0);
    }

    private static void promise17Task() {
        HourAgo x = page(HOUSE);
        due("17 UNKNOWN is ahead", x.task(6, 5, 4), UNKNOWN);
        due("17 OUTSIDE is ahead", x.task(0, 5, 4), OUTSIDE);
        due("17 no HOUSE", x.task(0, 5, 5), STATE);
        x.house();
        due("17 a minute alone", x.task(0, 5, 5), 0);
        due("17 all", x.task(5, 0, 59), 1);
        due("17 to above 59", x.task(0, 0, 60), OUTSIDE);
        due("17 from below 0", x.task(0, -1, 5), OUTSIDE);
        due("17 from above 59", x.task(0, 60, 60), OUTSIDE);
        due("17 no ROOM", x.task(-1, 0, 0), UNKNOWN);
        for (int i = 2; i < 5; i++) {
            due("17 its number", x.task(0, 59, 59), i);
        }
        due("17 OUTSIDE is ahead of FULL", x.task(0, 1, 0), OUTSIDE);
        due("17 above five", x.task(0, 0, 0), FULL);
        due("17 five", x.count(3), 5);
    }

    private static void promise18Done() {
        HourAgo x = housed(HOUSE);
        alive(x, PERSON, "301.2");
        x.person(PERSON);
        due("18 none yet", x.done(0), 0);
        x.task(1, 31, 40);
        x.task(1, 20, 30);
        x.task(1, 32, 40);
        x.task(2, 20, 31);
        x.task(2, 0, 59);
        due("18 its bits", x.done(0), 1 | 2 | 16);
        due("18 no LIFE", x.done(1), 0);
        due("18 nobody", x.done(2), UNKNOWN);
        due("18 -1", x.done(-1), UNKNOWN);
    }

    private static void promise19Shortest() {
        HourAgo x = housed(HOUSE);
        x.task(2, 31, 31);
        x.task(1, 27, 27);
        x.task(3, 30, 59);
        x.task(5, 0, 59);
        dueShortest(x, PERSON, 30, 1, 0, 0, NONE);
        dueShortest(x, PERSON, 30, 1, 1, 1, 2);
        dueShortest(x, PERSON, 30, 0, 1, 5, 1);
        dueShortest(x, PERSON, 30, 1, 2, 1, 7);
        dueShortest(x, CHILD, 30, 1, 2, 2, 6);
        dueShortest(x, CHILD, 31, 1, 2, 1, 7);
        dueShortest(x, CHILD, 0, 1, 4, NONE, NONE);
        dueShortest(x, PERSON, 30, 3, 4, 0, NONE);
        dueShortest(x, PERSON, 28, 2, 4, 2, 3);
        dueShortest(x, PERSON, 24, 3, 4, 6, 2);
        dueShortest(x, PERSON, 23, 3, 4, NONE, NONE);
        dueShortest(x, CAT, 30, 0, 8, NONE, NONE);
    }

    private static void promise19ShortestMet() {
        // no way out of 1, where THE LOW DOOR is: nobody comes to 31 and to 29 but by 30, twice
        HourAgo x = housed("02;11");
        x.task(1, 31, 31);
        x.task(1, 29, 29);
        dueShortest(x, PERSON, 30, 1, 3, NONE, NONE);
        dueShortest(x, BLIND, 30, 1, 3, NONE, NONE);
        dueShortest(x, CHILD, 30, 1, 3, 2, 6);
        dueShortest(x, CLERK, 30, 1, 3, 3, 6);
        dueShortest(x, CAT, 30, 1, 3, 3, 6);
        // in 31 in 0 and in 1
        HourAgo y = inBothRooms("01;12");
        dueShortest(y, PERSON, 30, 1, 3, 4, 0);
        HourAgo z = inBothRooms("01;12;01");
        dueShortest(z, PERSON, 30, 1, 3, NONE, NONE);
        dueShortest(z, CHILD, 30, 1, 3, NONE, NONE);
        dueShortest(z, BLIND, 30, 1, 3, 4, 0);
        dueShortest(z, CLERK, 30, 1, 3, 4, 0);
    }

    private static HourAgo inBothRooms(String house) {
        HourAgo x = housed(house);
        x.task(1, 31, 31);
        x.task(0, 31, 31);
        return x;
    }

    private static void dueShortest(HourAgo x, int kind, int minute, int room, int set, int steps, int first) {
        String call = "19 shortest(" + kind + ", " + minute + ", " + room + ", " + set + ", ";
        due(call + "0)", x.shortest(kind, minute, room, set, 0), steps);
        due(call + "1)", x.shortest(kind, minute, room, set, 1), first);
    }

    private static void promise19ShortestRefusals() {
        HourAgo x = page(HOUSE);
        due("19 no HOUSE", x.shortest(0, 0, 0, 0, 0), STATE);
        due("19 no TASKS", x.shortest(0, 0, 0, 1, 0), OUTSIDE);
        x.house();
        x.task(1, 0, 59);
        due("19 kind", x.shortest(5, 0, 6, 0, 0), OUTSIDE);
        due("19 minute", x.shortest(0, 60, 6, 0, 0), OUTSIDE);
        due("19 room is ahead of set", x.shortest(0, 0, 6, 2, 2), UNKNOWN);
        due("19 set", x.shortest(0, 0, 0, 2, 0), OUTSIDE);
        due("19 set -1", x.shortest(0, 0, 0, -1, 0), OUTSIDE);
        due("19 what", x.shortest(0, 0, 0, 0, 2), OUTSIDE);
        due("19 what -1", x.shortest(0, 0, 0, 0, -1), OUTSIDE);
        due("19 refusals do not count", x.count(7), 0);
        for (int i = 0; i < 30; i++) {
            due("19 time " + i, x.shortest(0, 30, i % 2 == 0 ? 1 : 5, 1, 0), i % 2 == 0 ? 0 : NONE);
        }
        due("19 all else counts", x.count(7), 30);
        due("19 set is ahead of 30 times", x.shortest(0, 0, 0, 2, 0), OUTSIDE);
        due("19 30 times", x.shortest(0, 30, 1, 1, 0), STATE);
        put(x, HOUSE);
        x.house();
        due("19 ever", x.shortest(0, 30, 1, 0, 0), STATE);
        due("19 still 30", x.count(7), 30);
    }

    private static void promise20Glimpse() {
        HourAgo x = page(HOUSE);
        due("20 OUTSIDE is ahead", x.glimpse(60, 6), OUTSIDE);
        due("20 UNKNOWN is ahead", x.glimpse(59, 6), UNKNOWN);
        due("20 no HOUSE", x.glimpse(59, 5), STATE);
        x.house();
        due("20 -1", x.glimpse(-1, 0), OUTSIDE);
        for (int i = 1; i <= 8; i++) {
            due("20 how many", x.glimpse(59, 5), i);
        }
        due("20 above eight", x.glimpse(0, 0), FULL);
        due("20 OUTSIDE is ahead of FULL", x.glimpse(60, 0), OUTSIDE);
        due("20 UNKNOWN is ahead of FULL", x.glimpse(0, -1), UNKNOWN);
        due("20 eight", x.count(4), 8);
    }

    private static void promise21Forget() {
        HourAgo x = new HourAgo();
        due("21 no HOUSE", x.forget(), 0);
        put(x, HOUSE);
        x.house();
        x.glimpse(1, 1);
        x.glimpse(2, 1);
        due("21 two", x.forget(), 2);
        due("21 gone", x.forget(), 0);
        due("21 anew", x.glimpse(3, 1), 1);
    }

    private static void promise22Whose() {
        HourAgo x = new HourAgo();
        due("22 no HOUSE", x.whose(), 0);
        put(x, HOUSE);
        x.house();
        alive(x, PERSON, "301.2");
        x.person(CHILD);
        alive(x, CAT, "301..");
        due("22 without GLIMPSES all", x.whose(), 7);
        x.glimpse(30, 1);
        due("22 two", x.whose(), 5);
        x.glimpse(32, 1);
        due("22 behind all of these", x.whose(), 4);
        x.glimpse(32, 2);
        due("22 nobody", x.whose(), 0);
    }

    private static void promise23Pair() {
        HourAgo x = housed(HOUSE);
        alive(x, PERSON, "301.2");
        alive(x, CAT, "301..");
        x.person(BLIND);
        due("23 without GLIMPSES", x.pair(0, 2), 1);
        x.glimpse(30, 1);
        due("23 either", x.pair(0, 1), 2);
        due("23 one has no LIFE", x.pair(0, 2), 1);
        x.glimpse(30, 1);
        due("23 either, twice", x.pair(1, 0), 4);
        x.glimpse(32, 2);
        due("23 and one alone", x.pair(0, 1), 4);
        due("23 not by that one", x.pair(1, 2), 0);
        x.glimpse(33, 2);
        due("23 neither", x.pair(0, 1), 0);
        due("23 the same", x.pair(0, 0), UNKNOWN);
        due("23 a", x.pair(3, 0), UNKNOWN);
        due("23 b", x.pair(0, -1), UNKNOWN);
        x.forget();
        for (int i = 0; i < 8; i++) {
            x.glimpse(31, 1);
        }
        due("23 most", x.pair(0, 1), 256);
        HourAgo y = housed(HOUSE);
        alive(y, PERSON, "301...t");
        alive(y, PERSON, "300");
        y.glimpse(30, 1);
        due("23 two SELVES are one PERSON", y.pair(0, 1), 1);
    }

    private static void promise24Lives() {
        HourAgo x = page("01,12;13");
        due("24 kind is ahead", x.lives(5, 6, 0, -1, 4), OUTSIDE);
        due("24 room is ahead", x.lives(0, 6, 0, -1, 4), UNKNOWN);
        due("24 steps", x.lives(0, 0, 0, 0, 0), OUTSIDE);
        due("24 steps 17", x.lives(0, 0, 17, 0, 0), OUTSIDE);
        due("24 seed", x.lives(0, 0, 1, -1, 0), OUTSIDE);
        due("24 what", x.lives(0, 0, 1, 0, 4), OUTSIDE);
        due("24 what -1", x.lives(0, 0, 1, 0, -1), OUTSIDE);
        due("24 no HOUSE", x.lives(0, 0, 1, 0, 0), STATE);
        x.house();
        // seed 0: 12345, whose draw is 0 of all; seed 5: 1222621274, whose draw is 18655
        dueRow("24 seed 0", what -> x.lives(PERSON, 0, 1, 0, what), OUTSIDE, 31, 1, 0, 12345, OUTSIDE);
        dueRow("24 18655 of 2 is 1", what -> x.lives(PERSON, 0, 1, 5, what), OUTSIDE, 31, 0, 0, 1222621274, OUTSIDE);
        dueRow("24 18655 of 4 is 3", what -> x.lives(PERSON, 1, 1, 5, what), OUTSIDE, 27, 1, 1, 1222621274, OUTSIDE);
        dueRow("24 of a CHILD", what -> x.lives(CHILD, 1, 1, 5, what), OUTSIDE, 26, 1, 1, 1222621274, OUTSIDE);
        dueRow("24 alone", what -> x.lives(CAT, 5, 16, 5, what), OUTSIDE, 46, 5, 0, drawn(5, 16), OUTSIDE);
        due("24 the greatest seed", x.lives(0, 5, 1, MOST, 3), drawn(MOST, 1));
        due("24 nothing is kept", x.count(2), 0);
    }

    private static void promise25Image() {
        HourAgo x = new HourAgo();
        due("25 no HOUSE", x.image(), STATE);
        HourAgo y = furnished();
        due("25 PEOPLE", y.image(), 2);
        y.person(CAT);
        due("25 three", y.image(), 3);
        put(y, "300");
        y.life(2);
        due("25 the latest", y.restore(), 3);
        due("25 without that LIFE", y.about(2, 1), 0);
    }

    private static void promise26Restore() {
        HourAgo x = furnished();
        due("26 none was kept", x.restore(), STATE);
        x.image();
        put(x, "102");
        x.life(0);
        put(x, "453");
        due("26 a LIFE that may be", x.life(1), 1);
        x.task(3, 3, 3);
        x.forget();
        x.glimpse(3, 3);
        put(x, "abc");
        x.shortest(0, 0, 0, 0, 0);
        due("26 PEOPLE", x.restore(), 2);
        due("26 a LIFE", x.about(0, 1), 5);
        due("26 by THE LOW DOOR", x.about(0, 2), 1);
        due("26 its DOORS", x.locked(), 0);
        due("26 no LIFE", x.about(1, 1), 0);
        due("26 TASKS", x.count(3), 1);
        due("26 which", x.done(0), 1);
        due("26 GLIMPSES", x.count(4), 2);
        due("26 whose", x.whose(), 1);
        due("26 THE PAGE stays", x.count(5), 3);
        due("26 shortest() stays", x.count(7), 1);
        due("26 again", x.restore(), 2);
        for (int i = 0; i < 2; i++) {
            x.person(PERSON);
            due("26 PEOPLE came", x.restore(), STATE);
        }
        x.image();
        due("26 nobody comes where four are", x.person(0), FULL);
        due("26 since then nobody", x.restore(), 4);
        x.blank();
        put(x, HOUSE);
        x.house();
        due("26 another HOUSE", x.restore(), STATE);
        for (int i = 0; i < 4; i++) {
            x.person(PERSON);
        }
        due("26 though as many came", x.restore(), STATE);
    }

    private static void promise27Count() {
        HourAgo x = furnished();
        x.shortest(0, 0, 0, 0, 0);
        x.shortest(0, 0, 0, 1, 1);
        put(x, "abcd");
        dueRow("27 count", what -> x.count(what), OUTSIDE, 3, 1, 2, 1, 2, 4, 1, 2, 3, 1, OUTSIDE);
        due("27 no what", x.count(MOST), OUTSIDE);
        x.blank();
        put(x, "01;09;01,02,03,04");
        x.house();
        dueRow("27 another HOUSE", what -> x.count(what), OUTSIDE, 1, 4, 0, 0, 0, 0, 2, 2, 9, 0, OUTSIDE);
    }

    private static void promise28Digest() {
        HourAgo x = page("a~");
        long h = mixed(683, 0, 'a', '~', 0, 0, 0, 0, 0, 2, 0, 0, 0, NONE);
        due("28 no HOUSE", x.digest(), h);
        HourAgo y = furnished();
        h = mixed(683, 1, 2, 0, 0, 0, 1, 0, 0, 0, 1, 0, 0, 0, 0, 0);
        h = mixed(h, 0);
        h = mixed(h, 0, 5, 1, 24, 1, NONE, 2, 24, 1);
        h = mixed(h, 4, 0, 0, NONE, NONE, NONE, 0, NONE, 0);
        h = mixed(h, NONE, 1);
        h = mixed(h, 1);
        h = mixed(h, 3, 1, 2, 1, 2, 0, 1, 0, 3, 1);
        due("28 furnished", y.digest(), h);
        due("28 nothing is changed", y.digest(), h);
    }

    private interface Row {
        long at(int what);
    }

    /** The answers for what = -1, 0, 1 and so on. */
    private static void dueRow(String call, Row row, long... wants) {
        for (int i = 0; i < wants.length; i++) {
            due(call + ", what = " + (i - 1), row.at(i - 1), wants[i]);
        }
    }
}
