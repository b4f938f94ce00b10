import java.util.ArrayList;
import java.util.HashSet;
import java.util.List;
import java.util.Random;
import java.util.Set;
import java.util.regex.Matcher;
import java.util.regex.Pattern;

/** Runs of drawn calls, each answer held against a second, plain way to find it: by texts, lists and trying all. */
public final class HourAgoModelTest {
    private static final int NONE = -1, UNKNOWN = -101, OUTSIDE = -102, STATE = -103, FULL = -104;
    private static final int RUNS = 400, CALLS = 440;

    public static void main(String[] args) {
        long answersThatRefuse = 0;
        for (int run = 0; run < RUNS; run++) {
            Run one = new Run(run);
            String fault = one.go();
            answersThatRefuse += one.refusals;
            if (fault != null) {
                System.out.println("run " + run + ": " + fault);
                System.exit(1);
            }
        }
        if (answersThatRefuse > 6L * RUNS * CALLS / 10) {
            System.out.println("too many refusals to tell much: " + answersThatRefuse);
            System.exit(1);
        }
        System.out.println("all answers are as due");
    }

    private record Spot(int minute, int room) {
    }

    private record Task(int room, int from, int to) {
        boolean doneAt(Spot spot) {
            return spot.room == room && spot.minute >= from && spot.minute <= to;
        }
    }

    private static final class Model {
        private static final Pattern HOUSE =
            Pattern.compile("[0-5]{2}(,[0-5]{2}){0,9};[0-5][1-9](;[0-5]{2}(,[0-5]{2}){0,3})?");
        private static final Pattern LIFE = Pattern.compile("[0-5][0-9][0-5][.t0-5]{0,16}");

        String page = "";
        List<String> doors = new ArrayList<>();
        List<String> sights = new ArrayList<>();
        int low = NONE;
        int back = 0;
        int houses = 0;
        int searches = 0;
        List<Integer> kinds = new ArrayList<>();
        List<String> lives = new ArrayList<>();
        List<Task> tasks = new ArrayList<>();
        List<Spot> glimpses = new ArrayList<>();
        List<String> keptLives = null;
        List<Task> keptTasks = null;
        List<Spot> keptGlimpses = null;

        long letters(long w) {
            StringBuilder more = new StringBuilder();
            boolean ended = false;
            for (long rest = w, i = 0; i < 8; i++, rest >>>= 8) {
                char code = (char) (rest & 0xff);
                if (code > 126 || code > 0 && ended) {
                    return OUTSIDE;
                }
                ended |= code == 0;
                if (code > 0) {
                    more.append(code);
                }
            }
            if (page.length() + more.length() > 45) {
                return FULL;
            }
            page += more;
            return page.length();
        }

        long blank() {
            int had = page.length();
            page = "";
            return had;
        }

        long fault(int sort) {
            if (sort != 0 && sort != 1) {
                return OUTSIDE;
            }
            for (int length = 1; length <= page.length(); length++) {
                String ahead = page.substring(0, length);
                boolean may = sort == 1 ? mayGoOn(LIFE, ahead) : mayGoOn(HOUSE, ahead) && arePairsUnlike(ahead);
                if (!may) {
                    return length - 1;
                }
            }
            return page.length();
        }

        private static boolean mayGoOn(Pattern pattern, String ahead) {
            Matcher matcher = pattern.matcher(ahead);
            return matcher.matches() || matcher.hitEnd();
        }

        private static boolean arePairsUnlike(String house) {
            String[] parts = house.split(";");
            return isUnlike(parts.length > 0 ? parts[0] : "") && isUnlike(parts.length > 2 ? parts[2] : "");
        }

        private static boolean isUnlike(String pairs) {
            Set<String> seen = new HashSet<>();
            for (String pair : pairs.split(",")) {
                if (pair.length() == 2 && (pair.charAt(0) == pair.charAt(1) || !seen.add(sorted(pair)))) {
                    return false;
                }
            }
            return true;
        }

        private static String sorted(String pair) {
            return pair.charAt(0) < pair.charAt(1) ? pair : "" + pair.charAt(1) + pair.charAt(0);
        }

        long house() {
            if (!HOUSE.matcher(page).matches() || !arePairsUnlike(page)) {
                return STATE;
            }
            String[] parts = page.split(";");
            doors = pairsOf(parts[0]);
            low = parts[1].charAt(0) - '0';
            back = parts[1].charAt(1) - '0';
            sights = pairsOf(parts.length > 2 ? parts[2] : "");
            houses++;
            kinds.clear();
            lives.clear();
            tasks.clear();
            glimpses.clear();
            keptLives = null;
            page = "";
            return doors.size();
        }

        private static List<String> pairsOf(String text) {
            List<String> pairs = new ArrayList<>();
            for (String pair : text.isEmpty() ? new String[0] : text.split(",")) {
                pairs.add(sorted(pair));
            }
            return pairs;
        }

        boolean isRoom(int room) {
            return room >= 0 && room <= 5;
        }

        boolean isMinute(int minute) {
            return minute >= 0 && minute <= 59;
        }

        boolean isKind(int kind) {
            return kind >= 0 && kind <= 4;
        }

        boolean isPerson(int person) {
            return person >= 0 && person < kinds.size();
        }

        int door(int a, int b) {
            return doors.indexOf(sorted("" + a + b));
        }

        boolean sight(int a, int b) {
            return sights.contains(sorted("" + a + b));
        }

        long between(int a, int b) {
            if (!isRoom(a) || !isRoom(b) || a == b) {
                return UNKNOWN;
            }
            return houses == 0 ? STATE : (door(a, b) >= 0 ? 1 : 0) + (sight(a, b) ? 2 : 0);
        }

        long person(int kind) {
            if (!isKind(kind)) {
                return OUTSIDE;
            }
            if (houses == 0) {
                return STATE;
            }
            if (kinds.size() == 4) {
                return FULL;
            }
            kinds.add(kind);
            lives.add("");
            return kinds.size() - 1;
        }

        /** Null for a LIFE that MAY not be, or is none; empty for no LIFE. */
        List<Spot> selves(String life, int kind) {
            List<Spot> selves = new ArrayList<>();
            if (life.isEmpty()) {
                return selves;
            }
            if (!LIFE.matcher(life).matches()) {
                return null;
            }
            selves.add(new Spot(Integer.parseInt(life.substring(0, 2)), life.charAt(2) - '0'));
            for (int i = 3; i < life.length(); i++) {
                Spot next = step(selves.get(selves.size() - 1), life.charAt(i), kind);
                if (next == null) {
                    return null;
                }
                selves.add(next);
            }
            return selves;
        }

        Spot step(Spot at, char step, int kind) {
            Spot next;
            if (step == 't') {
                next = at.room == low ? new Spot(at.minute - back - (kind == 2 ? 1 : 0), low) : null;
            } else if (step == '.') {
                next = new Spot(at.minute + 1, at.room);
            } else {
                next = door(at.room, step - '0') >= 0 ? new Spot(at.minute + 1, step - '0') : null;
            }
            return next != null && isMinute(next.minute) ? next : null;
        }

        List<Spot> selvesOf(int person) {
            return selves(lives.get(person), kinds.get(person));
        }

        long life(int person) {
            if (!isPerson(person)) {
                return UNKNOWN;
            }
            List<Spot> selves = page.isEmpty() ? null : selves(page, kinds.get(person));
            if (selves == null) {
                return STATE;
            }
            lives.set(person, page);
            page = "";
            return selves.size();
        }

        long about(int person, int what) {
            if (!isPerson(person)) {
                return UNKNOWN;
            }
            List<Spot> selves = selvesOf(person);
            Spot last = selves.isEmpty() ? new Spot(NONE, NONE) : selves.get(selves.size() - 1);
            long[] answers = {kinds.get(person), selves.size(), lives.get(person).replaceAll("[^t]", "").length(),
                last.minute, last.room};
            return what < 0 || what > 4 ? OUTSIDE : answers[what];
        }

        long as(int person, int kind) {
            if (!isPerson(person)) {
                return UNKNOWN;
            }
            String[] kindsOf = {"0", "01", "02", "03", "034"};
            return !isKind(kind) ? OUTSIDE : kindsOf[kinds.get(person)].contains("" + kind) ? person : NONE;
        }

        long self(int person, int self, int what) {
            if (!isPerson(person) || self < 0 || self >= selvesOf(person).size()) {
                return UNKNOWN;
            }
            Spot spot = selvesOf(person).get(self);
            return what == 0 ? spot.minute : what == 1 ? spot.room : OUTSIDE;
        }

        long there(int person, int minute, int room) {
            if (!isPerson(person) || !isRoom(room)) {
                return UNKNOWN;
            }
            return !isMinute(minute) ? OUTSIDE
                : selvesOf(person).stream().filter(s -> s.equals(new Spot(minute, room))).count();
        }

        long met(int person) {
            return isPerson(person) ? firstMet(selvesOf(person), kinds.get(person)) : UNKNOWN;
        }

        int firstMet(List<Spot> selves, int kind) {
            int first = 60;
            for (int i = 0; i < selves.size() && kind < 3; i++) {
                for (int j = 0; j < i; j++) {
                    Spot a = selves.get(i);
                    Spot b = selves.get(j);
                    boolean meets = a.room == b.room || kind != 1 && sight(a.room, b.room);
                    if (a.minute == b.minute && meets) {
                        first = Math.min(first, a.minute);
                    }
                }
            }
            return first == 60 ? NONE : first;
        }

        long most(int person, int what) {
            if (!isPerson(person)) {
                return UNKNOWN;
            }
            if (what != 0 && what != 1) {
                return OUTSIDE;
            }
            int[] in = new int[60];
            selvesOf(person).forEach(s -> in[s.minute]++);
            int best = NONE;
            for (int minute = 0; minute < 60; minute++) {
                if (in[minute] > (best == NONE ? 0 : in[best])) {
                    best = minute;
                }
            }
            return what == 1 ? best : best == NONE ? 0 : in[best];
        }

        long meet(int a, int b) {
            if (!isPerson(a) || !isPerson(b) || a == b) {
                return UNKNOWN;
            }
            return selvesOf(a).stream().filter(selvesOf(b)::contains).mapToInt(Spot::minute).min().orElse(NONE);
        }

        long locked() {
            if (houses == 0) {
                return STATE;
            }
            long best = NONE;
            long most = 0;
            List<String> all = doors;
            for (int door = 0; door < all.size(); door++) {
                doors = new ArrayList<>(all);
                doors.set(door, "locked");
                long without = 0;
                for (int i = 0; i < kinds.size(); i++) {
                    without += selvesOf(i) == null ? 1 : 0;
                }
                if (without > most) {
                    most = without;
                    best = door;
                }
            }
            doors = all;
            return best;
        }

        long task(int room, int from, int to) {
            if (!isRoom(room)) {
                return UNKNOWN;
            }
            if (from < 0 || from > to || to > 59) {
                return OUTSIDE;
            }
            if (houses == 0) {
                return STATE;
            }
            if (tasks.size() == 5) {
                return FULL;
            }
            tasks.add(new Task(room, from, to));
            return tasks.size() - 1;
        }

        long done(int person) {
            return isPerson(person) ? doneBy(selvesOf(person)) : UNKNOWN;
        }

        int doneBy(List<Spot> selves) {
            int bits = 0;
            for (int i = 0; i < tasks.size(); i++) {
                if (selves.stream().anyMatch(tasks.get(i)::doneAt)) {
                    bits |= 1 << i;
                }
            }
            return bits;
        }

        long shortest(int kind, int minute, int room, int set, int what) {
            if (!isKind(kind) || !isMinute(minute)) {
                return OUTSIDE;
            }
            if (!isRoom(room)) {
                return UNKNOWN;
            }
            if (set < 0 || set > (1 << tasks.size()) - 1 || what != 0 && what != 1) {
                return OUTSIDE;
            }
            if (houses == 0 || searches == 30) {
                return STATE;
            }
            searches++;
            List<List<Spot>> ways = List.of(List.of(new Spot(minute, room)));
            List<String> texts = List.of("");
            for (int steps = 0; steps <= 6; steps++) {
                for (int i = 0; i < ways.size(); i++) {
                    if ((doneBy(ways.get(i)) & set) == set && firstMet(ways.get(i), kind) == NONE) {
                        return what == 0 ? steps : steps == 0 ? NONE : "012345.t".indexOf(texts.get(i).charAt(0));
                    }
                }
                List<List<Spot>> longer = new ArrayList<>();
                List<String> longerTexts = new ArrayList<>();
                for (int i = 0; i < ways.size() && steps < 6; i++) {
                    for (char step : "012345.t".toCharArray()) {
                        List<Spot> way = new ArrayList<>(ways.get(i));
                        Spot next = step(way.get(way.size() - 1), step, kind);
                        if (next != null) {
                            way.add(next);
                            longer.add(way);
                            longerTexts.add(texts.get(i) + step);
                        }
                    }
                }
                ways = longer;
                texts = longerTexts;
            }
            return NONE;
        }

        long glimpse(int minute, int room) {
            if (!isMinute(minute)) {
                return OUTSIDE;
            }
            if (!isRoom(room)) {
                return UNKNOWN;
            }
            if (houses == 0) {
                return STATE;
            }
            if (glimpses.size() == 8) {
                return FULL;
            }
            glimpses.add(new Spot(minute, room));
            return glimpses.size();
        }

        long forget() {
            int had = glimpses.size();
            glimpses.clear();
            return had;
        }

        long whose() {
            long bits = 0;
            for (int i = 0; i < kinds.size(); i++) {
                bits |= selvesOf(i).containsAll(glimpses) ? 1L << i : 0;
            }
            return bits;
        }

        long pair(int a, int b) {
            if (!isPerson(a) || !isPerson(b) || a == b) {
                return UNKNOWN;
            }
            long ways = 0;
            for (int telling = 0; telling < 1 << glimpses.size(); telling++) {
                boolean may = true;
                for (int i = 0; i < glimpses.size(); i++) {
                    may &= selvesOf((telling >> i & 1) == 0 ? a : b).contains(glimpses.get(i));
                }
                ways += may ? 1 : 0;
            }
            return ways;
        }

        long lives(int kind, int room, int steps, int seed, int what) {
            if (!isKind(kind)) {
                return OUTSIDE;
            }
            if (!isRoom(room)) {
                return UNKNOWN;
            }
            if (steps < 1 || steps > 16 || seed < 0 || what < 0 || what > 3) {
                return OUTSIDE;
            }
            if (houses == 0) {
                return STATE;
            }
            Spot at = new Spot(30, room);
            long next = seed;
            int throughs = 0;
            for (int i = 0; i < steps; i++) {
                List<Character> ways = new ArrayList<>();
                for (char step : "012345.t".toCharArray()) {
                    if (step(at, step, kind) != null) {
                        ways.add(step);
                    }
                }
                if (ways.isEmpty()) {
                    break;
                }
                next = (next * 1103515245L + 12345L) % 2147483648L;
                char step = ways.get((int) (next / 65536 % ways.size()));
                at = step(at, step, kind);
                throughs += step == 't' ? 1 : 0;
            }
            return new long[] {at.minute, at.room, throughs, next}[what];
        }

        long image() {
            if (houses == 0) {
                return STATE;
            }
            keptLives = new ArrayList<>(lives);
            keptTasks = new ArrayList<>(tasks);
            keptGlimpses = new ArrayList<>(glimpses);
            return kinds.size();
        }

        long restore() {
            if (keptLives == null || keptLives.size() != kinds.size()) {
                return STATE;
            }
            lives = new ArrayList<>(keptLives);
            tasks = new ArrayList<>(keptTasks);
            glimpses = new ArrayList<>(keptGlimpses);
            return kinds.size();
        }

        long count(int what) {
            int[] answers = {doors.size(), sights.size(), kinds.size(), tasks.size(), glimpses.size(), page.length(),
                houses, searches, back, low};
            return what < 0 || what > 9 ? OUTSIDE : answers[what];
        }

        long digest() {
            List<Long> numbers = new ArrayList<>();
            for (int a = 0; a < 6 && houses > 0; a++) {
                for (int b = a + 1; b < 6; b++) {
                    numbers.add(between(a, b));
                }
            }
            if (houses > 0) {
                numbers.add(locked());
            }
            for (int i = 0; i < kinds.size(); i++) {
                for (int what = 0; what < 5; what++) {
                    numbers.add(about(i, what));
                }
                numbers.addAll(List.of(met(i), most(i, 0), most(i, 1), done(i)));
            }
            for (int a = 0; a < kinds.size(); a++) {
                for (int b = a + 1; b < kinds.size(); b++) {
                    numbers.addAll(List.of(meet(a, b), pair(a, b)));
                }
            }
            numbers.add(whose());
            page.chars().forEach(code -> numbers.add((long) code));
            for (int what = 0; what < 10; what++) {
                numbers.add(count(what));
            }
            long h = 683;
            for (long number : numbers) {
                h = h * 31 + number;
            }
            return h;
        }
    }

    private static final class Run {
        private final Random random;
        private final HourAgo x = new HourAgo();
        private final Model m = new Model();
        private final StringBuilder calls = new StringBuilder();
        private int made = 0;
        private String fault = null;
        long refusals = 0;

        Run(int seed) {
            random = new Random(seed);
        }

        String go() {
            while (made < CALLS && fault == null) {
                int draw = random.nextInt(100);
                if (draw < 3 || m.houses == 0 && draw < 50) {
                    page(random.nextInt(4) == 0 ? drawnNoise() : drawnHouse());
                    call(3, 0, 0, 0, 0, 0);
                } else if (draw < 5 && m.houses > 0) {
                    hunt();
                } else if (draw < 20) {
                    page(random.nextInt(8) == 0 ? drawnNoise() : drawnLife());
                    call(6, random.nextInt(Math.max(1, m.kinds.size())), 0, 0, 0, 0);
                } else {
                    int sort = random.nextInt(27);
                    call(sort, drawn(sort, 0), drawn(sort, 1), drawn(sort, 2), drawn(sort, 3), drawn(sort, 4));
                }
            }
            return fault;
        }

        /** TASKS close to one another, of which two or more at once are seldom DONE without being MET. */
        private void hunt() {
            int minute = random.nextInt(60);
            int room = random.nextInt(3) == 0 ? random.nextInt(6) : m.low;
            for (int i = 0; i < 3; i++) {
                int from = Math.max(0, Math.min(59, minute - 3 + random.nextInt(7)));
                int there = random.nextInt(3) == 0 ? random.nextInt(6) : m.low;
                call(15, there, from, Math.min(59, from + random.nextInt(6) / 5), 0, 0);
            }
            int all = (1 << m.tasks.size()) - 1;
            for (int i = 0; i < 6; i++) {
                int set = all & (random.nextInt() | random.nextInt());
                call(17, random.nextInt(5), minute, room, random.nextInt(9) == 0 ? all + 1 : set, random.nextInt(2));
            }
        }

        private void page(String text) {
            if (random.nextInt(10) > 0) {
                call(1, 0, 0, 0, 0, 0);
            }
            for (int i = 0; i < text.length(); i += 8) {
                long w = 0;
                for (int j = i; j < Math.min(i + 8, text.length()); j++) {
                    w |= (long) text.charAt(j) << 8 * (j - i);
                }
                letters(w);
            }
            call(2, random.nextInt(2), 0, 0, 0, 0);
        }

        private String drawnHouse() {
            StringBuilder text = new StringBuilder(drawnPairs(10, 6));
            text.append(';').append(random.nextInt(3)).append(1 + random.nextInt(random.nextInt(3) == 0 ? 9 : 3));
            if (random.nextBoolean()) {
                text.append(';').append(drawnPairs(4, 4));
            }
            return marred(text);
        }

        private String drawnPairs(int most, int rooms) {
            List<String> pairs = new ArrayList<>();
            int wanted = random.nextInt(4) == 0 ? most + random.nextInt(2) : 1 + random.nextInt(most);
            for (int tries = 0; tries < 60 && pairs.size() < wanted; tries++) {
                int a = random.nextInt(rooms);
                int b = random.nextInt(rooms);
                if (a != b && !pairs.contains("" + a + b) && !pairs.contains("" + b + a)) {
                    pairs.add("" + a + b);
                }
            }
            return String.join(",", pairs);
        }

        private String drawnLife() {
            int minute = random.nextInt(4) == 0 ? random.nextInt(60) : 20 + random.nextInt(6);
            StringBuilder text = new StringBuilder();
            text.append(minute / 10).append(minute % 10).append(random.nextInt(3));
            int kind = random.nextInt(5);
            int steps = random.nextInt(random.nextInt(4) == 0 ? 18 : 12);
            for (int i = 0; i < steps; i++) {
                char step = "012345..tttt".charAt(random.nextInt(12));
                if (m.selves(text.toString() + step, kind) != null) {
                    text.append(step);
                }
            }
            return marred(text);
        }

        private String marred(StringBuilder text) {
            int draw = random.nextInt(12);
            int place = random.nextInt(text.length());
            if (draw == 0) {
                text.setCharAt(place, "0123456789,;.t".charAt(random.nextInt(14)));
            } else if (draw == 1) {
                text.deleteCharAt(place);
            } else if (draw == 2) {
                text.insert(place, "01,;.t".charAt(random.nextInt(6)));
            }
            return text.toString();
        }

        private String drawnNoise() {
            StringBuilder text = new StringBuilder();
            int length = random.nextInt(48);
            for (int i = 0; i < length; i++) {
                text.append("012345,;.t9".charAt(random.nextInt(11)));
            }
            return text.toString();
        }

        /** Mostly a number that the call can use there; at times one at its edges or far outside. */
        private int drawn(int sort, int place) {
            int draw = random.nextInt(60);
            if (draw == 0) {
                return random.nextInt();
            }
            if (draw < 4) {
                return new int[] {-1, 5, 6, 60, Integer.MIN_VALUE, Integer.MAX_VALUE}[random.nextInt(6)];
            }
            switch (letterOf(sort, place)) {
                case 'R':
                    return random.nextInt(random.nextInt(3) == 0 ? 6 : 3);
                case 'K':
                    return random.nextInt(5);
                case 'P':
                    return random.nextInt(Math.max(1, m.kinds.size()));
                case 'M':
                    return random.nextInt(5) == 0 ? random.nextInt(60) : 18 + random.nextInt(12);
                case 'N':
                    return 22 + random.nextInt(38);
                case 'S':
                    return random.nextInt(12);
                case 'B':
                    return random.nextInt(1 << m.tasks.size());
                case 'T':
                    return 1 + random.nextInt(16);
                case 'D':
                    return random.nextInt() >>> 1;
                case 'C':
                    return random.nextInt(10);
                case 'F':
                    return random.nextInt(2);
                default:
                    return random.nextInt(5);
            }
        }

        /** What sort of number a call takes there: a ROOM, a KIND, a PERSON and so on, told by a letter. */
        private static char letterOf(int sort, int place) {
            String[] rows = {".....", ".....", "F....", ".....", "RR...", "K....", "P....", "PW...", "PK...", "PSF..",
                "PMR..", "P....", "PF...", "PP...", ".....", "RMN..", "P....", "KMRBF", "MR...", ".....", ".....",
                "PP...", "KRTDF", ".....", ".....", "C....", "....."};
            return rows[sort].charAt(place);
        }

        private void letters(long w) {
            check("letters(" + w + ")", x.letters(w), m.letters(w));
        }

        private void call(int sort, int a, int b, int c, int d, int e) {
            if (sort == 0) {
                letters(random.nextInt(3) == 0 ? random.nextLong() : random.nextInt(300) * 7L);
                return;
            }
            String[] names = {"letters", "blank", "fault", "house", "between", "person", "life", "about", "as", "self",
                "there", "met", "most", "meet", "locked", "task", "done", "shortest", "glimpse", "forget", "whose",
                "pair", "lives", "image", "restore", "count", "digest"};
            check(names[sort] + "(" + a + ", " + b + ", " + c + ", " + d + ", " + e + ")",
                real(sort, a, b, c, d, e), model(sort, a, b, c, d, e));
        }

        private void check(String call, long got, long due) {
            made++;
            refusals += due == UNKNOWN || due == OUTSIDE || due == STATE || due == FULL ? 1 : 0;
            calls.append(call).append(" = ").append(due).append('\n');
            long gotDigest = made % 8 == 0 ? x.digest() : 0;
            long dueDigest = made % 8 == 0 ? m.digest() : 0;
            if (fault == null && (got != due || gotDigest != dueDigest)) {
                fault = "\n" + calls + "answered " + got + " at the last call; digest " + gotDigest + ", due "
                    + dueDigest;
            }
        }

        private long real(int sort, int a, int b, int c, int d, int e) {
            switch (sort) {
                case 1: return x.blank();
                case 2: return x.fault(a);
                case 3: return x.house();
                case 4: return x.between(a, b);
                case 5: return x.person(a);
                case 6: return x.life(a);
                case 7: return x.about(a, b);
                case 8: return x.as(a, b);
                case 9: return x.self(a, b, c);
                case 10: return x.there(a, b, c);
                case 11: return x.met(a);
                case 12: return x.most(a, b);
                case 13: return x.meet(a, b);
                case 14: return x.locked();
                case 15: return x.task(a, b, c);
                case 16: return x.done(a);
                case 17: return x.shortest(a, b, c, d, e);
                case 18: return x.glimpse(a, b);
                case 19: return x.forget();
                case 20: return x.whose();
                case 21: return x.pair(a, b);
                case 22: return x.lives(a, b, c, d, e);
                case 23: return x.image();
                case 24: return x.restore();
                case 25: return x.count(a);
                default: return x.digest();
            }
        }

        private long model(int sort, int a, int b, int c, int d, int e) {
            switch (sort) {
                case 1: return m.blank();
                case 2: return m.fault(a);
                case 3: return m.house();
                case 4: return m.between(a, b);
                case 5: return m.person(a);
                case 6: return m.life(a);
                case 7: return m.about(a, b);
                case 8: return m.as(a, b);
                case 9: return m.self(a, b, c);
                case 10: return m.there(a, b, c);
                case 11: return m.met(a);
                case 12: return m.most(a, b);
                case 13: return m.meet(a, b);
                case 14: return m.locked();
                case 15: return m.task(a, b, c);
                case 16: return m.done(a);
                case 17: return m.shortest(a, b, c, d, e);
                case 18: return m.glimpse(a, b);
                case 19: return m.forget();
                case 20: return m.whose();
                case 21: return m.pair(a, b);
                case 22: return m.lives(a, b, c, d, e);
                case 23: return m.image();
                case 24: return m.restore();
                case 25: return m.count(a);
                default: return m.digest();
            }
        }
    }
}
