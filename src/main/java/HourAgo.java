/**
 * A house whose low door leads back in time, and the people who go about in it.
 *
 * A SPOT is a ROOM in a MINUTE, as one number: it is what a SELF, a GLIMPSE and a TASK have in common.
 */
public final class HourAgo {
    public static final int NONE = -1, UNKNOWN = -101, OUTSIDE = -102, STATE = -103, FULL = -104;

    private static final int ROOMS = 6, MINUTES = 60, SPOTS = ROOMS * MINUTES;
    private static final int PERSON = 0, BLIND = 1, CHILD = 2, CLERK = 3, CAT = 4, KINDS = 5;
    /** STEPS 0 to 5 go through a DOOR into that ROOM. */
    private static final int STAY = 6, THROUGH = 7, STEP_SORTS = 8;
    private static final int MAX_LETTERS = 45, MAX_LETTER = 126;
    private static final int MAX_PEOPLE = 4, MAX_TASKS = 5, MAX_GLIMPSES = 8;
    private static final int MAX_SHORTEST = 30, LIVES_MINUTE = 30, COUNTS = 10;

    private final Page page = new Page();
    private final House house = new House();
    private final House draftHouse = new House();
    private final Life draftLife = new Life();
    private final Person[] people = new Person[MAX_PEOPLE];
    private final Tasks tasks = new Tasks();
    private final Glimpses glimpses = new Glimpses();
    private final Image image = new Image();
    private final Search search = new Search();
    private final Walk walk = new Walk();
    private int peopleCount;
    private int housesRead;
    private int searchesDone;

    public HourAgo() {
        for (int i = 0; i < people.length; i++) {
            people[i] = new Person();
        }
    }

    // ---- texts

    public int letters(long w) {
        int more = Page.lettersIn(w);
        if (more == NONE) {
            return OUTSIDE;
        }
        if (page.length() + more > MAX_LETTERS) {
            return FULL;
        }
        page.addAll(w);
        return page.length();
    }

    public int blank() {
        int had = page.length();
        page.clear();
        return had;
    }

    public int fault(int sort) {
        if (sort == 0) {
            return draftHouse.read(page);
        }
        return sort == 1 ? Life.faultIn(page) : OUTSIDE;
    }

    public int house() {
        if (draftHouse.read(page) < page.length() || !draftHouse.isWhole()) {
            return STATE;
        }
        house.read(page);
        housesRead++;
        peopleCount = 0;
        tasks.clear();
        glimpses.clear();
        image.drop();
        page.clear();
        return house.doors();
    }

    public int between(int a, int b) {
        if (!isRoom(a) || !isRoom(b) || a == b) {
            return UNKNOWN;
        }
        if (!hasHouse()) {
            return STATE;
        }
        int door = house.doorBetween(a, b) == NONE ? 0 : 1;
        return house.isSeenFrom(a, b) ? door + 2 : door;
    }

    // ---- people, lives

    public int person(int kind) {
        if (!isKind(kind)) {
            return OUTSIDE;
        }
        if (!hasHouse()) {
            return STATE;
        }
        int number = peopleCount;
        if (number >= MAX_PEOPLE) {
            return FULL;
        }
        peopleCount++;
        Person who = personAt(number);
        if (who != null) {
            who.begin(kind);
        }
        return number;
    }

    public int life(int person) {
        Person who = personAt(person);
        if (who == null) {
            return UNKNOWN;
        }
        int leap = house.leapOf(who.kind());
        if (!draftLife.read(page, house, leap)) {
            return STATE;
        }
        who.lived().copyFrom(draftLife);
        page.clear();
        return who.lived().selves();
    }

    public int about(int person, int what) {
        Person who = personAt(person);
        if (who == null) {
            return UNKNOWN;
        }
        int last = who.lived().lastSpot();
        switch (what) {
            case 0:
                return who.kind();
            case 1:
                return who.lived().selves();
            case 2:
                return who.lived().throughs();
            case 3:
                return minuteOf(last);
            case 4:
                return roomOf(last);
            default:
                return OUTSIDE;
        }
    }

    public int as(int person, int kind) {
        Person who = personAt(person);
        if (who == null) {
            return UNKNOWN;
        }
        if (!isKind(kind)) {
            return OUTSIDE;
        }
        return isOfKind(who.kind(), kind) ? person : NONE;
    }

    public int self(int person, int self, int what) {
        Person who = personAt(person);
        if (who == null || self < 0 || self >= who.lived().selves()) {
            return UNKNOWN;
        }
        int spot = who.lived().spotAt(self);
        if (what == 0) {
            return minuteOf(spot);
        }
        return what == 1 ? roomOf(spot) : OUTSIDE;
    }

    public int there(int person, int minute, int room) {
        Person who = personAt(person);
        if (who == null || !isRoom(room)) {
            return UNKNOWN;
        }
        if (!isMinute(minute)) {
            return OUTSIDE;
        }
        return who.lived().selvesAt(spotOf(minute, room));
    }

    public int met(int person) {
        Person who = personAt(person);
        return who == null ? UNKNOWN : who.firstMeeting(house);
    }

    public int most(int person, int what) {
        Person who = personAt(person);
        if (who == null) {
            return UNKNOWN;
        }
        if (what != 0 && what != 1) {
            return OUTSIDE;
        }
        int fullest = who.lived().fullestMinute();
        return what == 1 ? fullest : who.lived().selvesIn(fullest);
    }

    public int meet(int a, int b) {
        Person one = personAt(a);
        Person other = personAt(b);
        if (one == null || other == null || a == b) {
            return UNKNOWN;
        }
        return one.lived().firstMinuteWith(other.lived());
    }

    public int locked() {
        if (!hasHouse()) {
            return STATE;
        }
        int best = NONE;
        int bestUsers = 0;
        for (int door = 0; door < house.doors(); door++) {
            int users = usersOf(door);
            if (users > bestUsers) {
                best = door;
                bestUsers = users;
            }
        }
        return best;
    }

    // ---- tasks

    public int task(int room, int from, int to) {
        if (!isRoom(room)) {
            return UNKNOWN;
        }
        if (!isMinute(from) || !isMinute(to) || to < from) {
            return OUTSIDE;
        }
        if (!hasHouse()) {
            return STATE;
        }
        return tasks.add(room, from, to);
    }

    public int done(int person) {
        Person who = personAt(person);
        return who == null ? UNKNOWN : tasks.doneBy(who.lived());
    }

    public int shortest(int kind, int minute, int room, int set, int what) {
        if (!isKind(kind) || !isMinute(minute)) {
            return OUTSIDE;
        }
        if (!isRoom(room)) {
            return UNKNOWN;
        }
        if (set < 0 || set >= 1 << tasks.size() || what < 0 || what > 1) {
            return OUTSIDE;
        }
        if (!hasHouse() || searchesDone >= MAX_SHORTEST) {
            return STATE;
        }
        searchesDone++;
        search.begin(kind, house.leapOf(kind), tasks, set);
        search.look(house, spotOf(minute, room));
        return what == 0 ? search.steps() : search.firstStep();
    }

    // ---- glimpses

    public int glimpse(int minute, int room) {
        if (!isMinute(minute)) {
            return OUTSIDE;
        }
        if (!isRoom(room)) {
            return UNKNOWN;
        }
        if (!hasHouse()) {
            return STATE;
        }
        return glimpses.add(spotOf(minute, room));
    }

    public int forget() {
        int had = glimpses.size();
        glimpses.clear();
        return had;
    }

    public int whose() {
        int bits = 0;
        for (int i = 0; i < peopleCount; i++) {
            Person who = personAt(i);
            if (who != null && glimpses.areAllOf(who.lived())) {
                bits |= 1 << i;
            }
        }
        return bits;
    }

    public int pair(int a, int b) {
        Person one = personAt(a);
        Person other = personAt(b);
        if (one == null || other == null || a == b) {
            return UNKNOWN;
        }
        return glimpses.waysBetween(one.lived(), other.lived());
    }

    public int lives(int kind, int room, int steps, int seed, int what) {
        if (!isKind(kind)) {
            return OUTSIDE;
        }
        if (!isRoom(room)) {
            return UNKNOWN;
        }
        if (steps < 1 || steps > Life.MAX_STEPS || seed < 0 || what < 0 || what > 3) {
            return OUTSIDE;
        }
        if (!hasHouse()) {
            return STATE;
        }
        walk.begin(spotOf(LIVES_MINUTE, room), seed);
        walk.go(house, house.leapOf(kind), steps);
        return walk.tell(what);
    }

    // ---- what is told of all

    public int image() {
        if (!hasHouse()) {
            return STATE;
        }
        image.keep(peopleCount, tasks, glimpses);
        for (int i = 0; i < peopleCount; i++) {
            copyLife(personAt(i), image.personAt(i));
        }
        return peopleCount;
    }

    public int restore() {
        if (!image.isOf(peopleCount)) {
            return STATE;
        }
        for (int i = 0; i < peopleCount; i++) {
            copyLife(image.personAt(i), personAt(i));
        }
        image.giveBack(tasks, glimpses);
        return peopleCount;
    }

    public int count(int what) {
        switch (what) {
            case 0:
                return house.doors();
            case 1:
                return house.sights();
            case 2:
                return peopleCount;
            case 3:
                return tasks.size();
            case 4:
                return glimpses.size();
            case 5:
                return page.length();
            case 6:
                return housesRead;
            case 7:
                return searchesDone;
            case 8:
                return house.back();
            case 9:
                return house.lowRoom();
            default:
                return OUTSIDE;
        }
    }

    public long digest() {
        long h = 683;
        if (hasHouse()) {
            h = digestOfHouse(h);
        }
        for (int i = 0; i < peopleCount; i++) {
            h = digestOfPerson(h, i);
        }
        h = mixed(digestOfPairs(h), whose());
        for (int i = 0; i < page.length(); i++) {
            h = mixed(h, page.at(i));
        }
        for (int what = 0; what < COUNTS; what++) {
            h = mixed(h, count(what));
        }
        return h;
    }

    private long digestOfHouse(long begun) {
        long h = begun;
        for (int a = 0; a < ROOMS; a++) {
            for (int b = a + 1; b < ROOMS; b++) {
                h = mixed(h, between(a, b));
            }
        }
        return mixed(h, locked());
    }

    private long digestOfPerson(long begun, int person) {
        long h = begun;
        for (int what = 0; what <= 4; what++) {
            h = mixed(h, about(person, what));
        }
        h = mixed(h, met(person));
        h = mixed(h, most(person, 0));
        h = mixed(h, most(person, 1));
        return mixed(h, done(person));
    }

    private long digestOfPairs(long begun) {
        long h = begun;
        for (int a = 0; a < peopleCount; a++) {
            for (int b = a + 1; b < peopleCount; b++) {
                h = mixed(h, meet(a, b));
                h = mixed(h, pair(a, b));
            }
        }
        return h;
    }

    private static long mixed(long h, long it) {
        return 31L * h + it;
    }

    private boolean hasHouse() {
        return housesRead > 0;
    }

    /** Null for a number that names nobody. */
    private Person personAt(int person) {
        return person >= 0 && person < peopleCount && person < people.length ? people[person] : null;
    }

    private int usersOf(int door) {
        int users = 0;
        for (int i = 0; i < peopleCount; i++) {
            Person who = personAt(i);
            if (who != null && who.lived().usesDoor(door)) {
                users++;
            }
        }
        return users;
    }

    private static void copyLife(Person from, Person to) {
        if (from != null && to != null) {
            to.lived().copyFrom(from.lived());
        }
    }

    private static boolean isRoom(int room) {
        return room >= 0 && room < ROOMS;
    }

    private static boolean isMinute(int minute) {
        return minute >= 0 && minute < MINUTES;
    }

    private static boolean isKind(int kind) {
        return kind >= 0 && kind < KINDS;
    }

    private static boolean isOfKind(int own, int asked) {
        return asked == PERSON || asked == own || asked == CLERK && own == CAT;
    }

    private static int spotOf(int minute, int room) {
        return minute * ROOMS + room;
    }

    /** NONE stays NONE, so that "no SELF" has neither a MINUTE nor a ROOM. */
    private static int minuteOf(int spot) {
        return spot == NONE ? NONE : spot / ROOMS;
    }

    private static int roomOf(int spot) {
        return spot == NONE ? NONE : spot % ROOMS;
    }

    /** The digit that a letter tells, or NONE if it is no digit from least to most. */
    private static int digitOf(int letter, int least, int most) {
        int digit = letter - '0';
        return digit >= least && digit <= most ? digit : NONE;
    }

    private static int roomDigitOf(int letter) {
        return digitOf(letter, 0, ROOMS - 1);
    }

    private static final class Page {
        private final int[] codes = new int[MAX_LETTERS];
        private int length;

        /** NONE if these bytes tell no letters. */
        static int lettersIn(long w) {
            int letters = 0;
            boolean ended = false;
            for (int i = 0; i < 8; i++) {
                int code = byteOf(w, i);
                if (code > MAX_LETTER || ended && code != 0) {
                    return NONE;
                }
                ended = code == 0;
                letters += ended ? 0 : 1;
            }
            return letters;
        }

        private static int byteOf(long w, int place) {
            return (int) (w >>> 8 * place & 255L);
        }

        void addAll(long w) {
            for (int i = 0; i < 8; i++) {
                int code = byteOf(w, i);
                if (code != 0 && length >= 0 && length < codes.length) {
                    codes[length] = code;
                    length++;
                }
            }
        }

        int length() {
            return length;
        }

        int at(int place) {
            return place >= 0 && place < length && place < codes.length ? codes[place] : 0;
        }

        void clear() {
            length = 0;
        }
    }

    /** Reads its text a letter at a time; what it has read so far is the house so far. */
    private static final class House {
        private static final int MAX_DOORS = 10, MAX_SIGHTS = 4;
        private static final int DOOR_FIRST = 0, DOOR_SECOND = 1, DOOR_READ = 2, LOW_ROOM = 3, LOW_BACK = 4,
            LOW_READ = 5, SIGHT_FIRST = 6, SIGHT_SECOND = 7, SIGHT_READ = 8;

        /** For each two ROOMS the number of the DOOR plus one, so that 0 is no DOOR. */
        private final int[] doorNumbers = new int[ROOMS * ROOMS];
        /** For each ROOM those into which one sees from it, as bits. */
        private final int[] seenRooms = new int[ROOMS];
        private int doors;
        private int sights;
        private int lowRoom = NONE;
        private int back;
        private int stage;
        private int firstRoom;

        /** The place of the first letter that can't stand there; the length, if all can. */
        int read(Page page) {
            clear();
            for (int place = 0; place < page.length(); place++) {
                if (!takes(page.at(place))) {
                    return place;
                }
            }
            return page.length();
        }

        boolean isWhole() {
            return stage == LOW_READ || stage == SIGHT_READ;
        }

        private void clear() {
            for (int i = 0; i < doorNumbers.length; i++) {
                doorNumbers[i] = 0;
            }
            for (int i = 0; i < seenRooms.length; i++) {
                seenRooms[i] = 0;
            }
            doors = 0;
            sights = 0;
            lowRoom = NONE;
            back = 0;
            stage = DOOR_FIRST;
        }

        private boolean takes(int letter) {
            switch (stage) {
                case DOOR_FIRST:
                case SIGHT_FIRST:
                    firstRoom = roomDigitOf(letter);
                    return goesOn(firstRoom != NONE, stage + 1);
                case DOOR_SECOND:
                    return goesOn(addsDoor(firstRoom, roomDigitOf(letter)), DOOR_READ);
                case DOOR_READ:
                    return letter == ';' ? goesOn(true, LOW_ROOM)
                        : goesOn(letter == ',' && doors < MAX_DOORS, DOOR_FIRST);
                case LOW_ROOM:
                    lowRoom = roomDigitOf(letter);
                    return goesOn(lowRoom != NONE, LOW_BACK);
                case LOW_BACK:
                    back = digitOf(letter, 1, 9);
                    return goesOn(back != NONE, LOW_READ);
                case LOW_READ:
                    return goesOn(letter == ';', SIGHT_FIRST);
                case SIGHT_SECOND:
                    return goesOn(addsSight(firstRoom, roomDigitOf(letter)), SIGHT_READ);
                case SIGHT_READ:
                    return goesOn(letter == ',' && sights < MAX_SIGHTS, SIGHT_FIRST);
                default:
                    return false;
            }
        }

        private boolean goesOn(boolean may, int next) {
            if (may) {
                stage = next;
            }
            return may;
        }

        private boolean addsDoor(int a, int b) {
            if (!isRoom(a) || !isRoom(b) || a == b || doorBetween(a, b) != NONE) {
                return false;
            }
            doors++;
            doorNumbers[a * ROOMS + b] = doors;
            doorNumbers[b * ROOMS + a] = doors;
            return true;
        }

        private boolean addsSight(int a, int b) {
            if (!isRoom(a) || !isRoom(b) || a == b || isSeenFrom(a, b)) {
                return false;
            }
            sights++;
            seenRooms[a] |= 1 << b;
            seenRooms[b] |= 1 << a;
            return true;
        }

        int doors() {
            return doors;
        }

        int sights() {
            return sights;
        }

        int lowRoom() {
            return lowRoom;
        }

        int back() {
            return back;
        }

        int leapOf(int kind) {
            return isOfKind(kind, CHILD) ? back + 1 : back;
        }

        int doorBetween(int a, int b) {
            return isRoom(a) && isRoom(b) ? doorNumbers[a * ROOMS + b] - 1 : NONE;
        }

        boolean isSeenFrom(int a, int b) {
            return isRoom(a) && isRoom(b) && (seenRooms[a] >> b & 1) != 0;
        }

        /** The ROOMS, as bits, in which another SELF would meet one of that KIND who is in this ROOM. */
        int meetingRooms(int kind, int room) {
            if (!isRoom(room) || isOfKind(kind, CLERK)) {
                return 0;
            }
            int same = 1 << room;
            return isOfKind(kind, BLIND) ? same : same | seenRooms[room];
        }

        /** The spot to which a STEP leads, or NONE if it MAY not be. */
        int spotAfter(int spot, int step, int leap) {
            int minute = minuteOf(spot);
            int room = roomOf(spot);
            if (step == THROUGH) {
                return room == lowRoom && minute >= leap ? spotOf(minute - leap, room) : NONE;
            }
            if (!isMinute(minute) || !isMinute(minute + 1)) {
                return NONE;
            }
            if (step == STAY) {
                return spotOf(minute + 1, room);
            }
            return doorBetween(room, step) == NONE ? NONE : spotOf(minute + 1, step);
        }
    }

    private static final class Life {
        static final int MAX_STEPS = 16;
        private static final int HEAD = 3;

        private final int[] spots = new int[MAX_STEPS + 1];
        private int selves;
        private int throughs;
        private int doorBits;

        static int faultIn(Page page) {
            for (int place = 0; place < page.length(); place++) {
                if (!mayStand(place, page.at(place))) {
                    return place;
                }
            }
            return page.length();
        }

        private static boolean mayStand(int place, int letter) {
            switch (place) {
                case 0:
                    return digitOf(letter, 0, MINUTES / 10 - 1) != NONE;
                case 1:
                    return digitOf(letter, 0, 9) != NONE;
                case 2:
                    return roomDigitOf(letter) != NONE;
                default:
                    return place < HEAD + MAX_STEPS && stepOf(letter) != NONE;
            }
        }

        private static int stepOf(int letter) {
            if (letter == '.') {
                return STAY;
            }
            return letter == 't' ? THROUGH : roomDigitOf(letter);
        }

        /** Whether THE PAGE holds a LIFE that MAY be; if not, what this object holds is of no use. */
        boolean read(Page page, House house, int leap) {
            clear();
            if (page.length() < HEAD || faultIn(page) < page.length()) {
                return false;
            }
            int minute = 10 * digitOf(page.at(0), 0, 9) + digitOf(page.at(1), 0, 9);
            add(spotOf(minute, roomDigitOf(page.at(2))));
            for (int place = HEAD; place < page.length(); place++) {
                if (!takes(stepOf(page.at(place)), house, leap)) {
                    return false;
                }
            }
            return true;
        }

        private boolean takes(int step, House house, int leap) {
            int last = lastSpot();
            int next = house.spotAfter(last, step, leap);
            if (next == NONE) {
                return false;
            }
            if (step == THROUGH) {
                throughs++;
            } else if (step != STAY) {
                doorBits |= 1 << house.doorBetween(roomOf(last), step);
            }
            add(next);
            return true;
        }

        private void add(int spot) {
            if (selves >= 0 && selves < spots.length) {
                spots[selves] = spot;
                selves++;
            }
        }

        void clear() {
            selves = 0;
            throughs = 0;
            doorBits = 0;
        }

        void copyFrom(Life other) {
            clear();
            for (int i = 0; i < other.selves; i++) {
                add(other.spotAt(i));
            }
            throughs = other.throughs;
            doorBits = other.doorBits;
        }

        int selves() {
            return selves;
        }

        int throughs() {
            return throughs;
        }

        boolean usesDoor(int door) {
            return (doorBits >> door & 1) != 0;
        }

        int spotAt(int self) {
            return self >= 0 && self < selves && self < spots.length ? spots[self] : NONE;
        }

        int lastSpot() {
            return spotAt(selves - 1);
        }

        int selvesAt(int spot) {
            int there = 0;
            for (int i = 0; i < selves; i++) {
                there += spotAt(i) == spot ? 1 : 0;
            }
            return there;
        }

        int selvesIn(int minute) {
            int there = 0;
            for (int i = 0; i < selves; i++) {
                there += minuteOf(spotAt(i)) == minute ? 1 : 0;
            }
            return there;
        }

        /** The first MINUTE of those that hold most SELVES; NONE without a LIFE. */
        int fullestMinute() {
            int best = NONE;
            int bestSelves = 0;
            for (int i = 0; i < selves; i++) {
                int minute = minuteOf(spotAt(i));
                int there = selvesIn(minute);
                if (there > bestSelves || there == bestSelves && minute < best) {
                    best = minute;
                    bestSelves = there;
                }
            }
            return best;
        }

        int firstMinuteWith(Life other) {
            int first = NONE;
            for (int i = 0; i < selves; i++) {
                int minute = minuteOf(spotAt(i));
                if ((first == NONE || minute < first) && other.selvesAt(spotAt(i)) > 0) {
                    first = minute;
                }
            }
            return first;
        }
    }

    private static final class Person {
        private final Life life = new Life();
        private int kind;

        void begin(int newKind) {
            kind = newKind;
            life.clear();
        }

        int kind() {
            return kind;
        }

        Life lived() {
            return life;
        }

        /** The first MINUTE in which it is MET by itself. */
        int firstMeeting(House house) {
            int first = NONE;
            for (int i = 0; i < life.selves(); i++) {
                int minute = minuteOf(life.spotAt(i));
                if ((first == NONE || minute < first) && isMetBySelf(house, i)) {
                    first = minute;
                }
            }
            return first;
        }

        private boolean isMetBySelf(House house, int self) {
            int spot = life.spotAt(self);
            int rooms = house.meetingRooms(kind, roomOf(spot));
            for (int i = 0; i < life.selves(); i++) {
                int other = life.spotAt(i);
                if (i != self && minuteOf(other) == minuteOf(spot) && (rooms >> roomOf(other) & 1) != 0) {
                    return true;
                }
            }
            return false;
        }
    }

    private static final class Tasks {
        private final int[] rooms = new int[MAX_TASKS];
        private final int[] froms = new int[MAX_TASKS];
        private final int[] tos = new int[MAX_TASKS];
        private int size;

        int size() {
            return size;
        }

        void clear() {
            size = 0;
        }

        int add(int room, int from, int to) {
            int number = size;
            if (number < 0 || number >= MAX_TASKS) {
                return FULL;
            }
            rooms[number] = room;
            froms[number] = from;
            tos[number] = to;
            size++;
            return number;
        }

        void copyFrom(Tasks other) {
            clear();
            for (int i = 0; i < other.size && i < MAX_TASKS; i++) {
                add(other.rooms[i], other.froms[i], other.tos[i]);
            }
        }

        /** The TASKS, as bits, that a SELF in that spot has DONE. */
        int doneAt(int spot) {
            int minute = minuteOf(spot);
            int room = roomOf(spot);
            int bits = 0;
            for (int i = 0; i < size && i < MAX_TASKS; i++) {
                if (rooms[i] == room && froms[i] <= minute && minute <= tos[i]) {
                    bits |= 1 << i;
                }
            }
            return bits;
        }

        int doneBy(Life life) {
            int bits = 0;
            for (int i = 0; i < life.selves(); i++) {
                bits |= doneAt(life.spotAt(i));
            }
            return bits;
        }
    }

    private static final class Glimpses {
        private final int[] spots = new int[MAX_GLIMPSES];
        private int size;

        int size() {
            return size;
        }

        void clear() {
            size = 0;
        }

        int add(int spot) {
            if (size < 0 || size >= spots.length) {
                return FULL;
            }
            spots[size] = spot;
            size++;
            return size;
        }

        void copyFrom(Glimpses other) {
            clear();
            for (int i = 0; i < other.size && i < MAX_GLIMPSES; i++) {
                add(other.spots[i]);
            }
        }

        boolean areAllOf(Life life) {
            for (int i = 0; i < size && i < spots.length; i++) {
                if (life.selvesAt(spots[i]) == 0) {
                    return false;
                }
            }
            return true;
        }

        /** In how many ways each can be told to one of two, by what each of them alone could be. */
        int waysBetween(Life one, Life other) {
            int ways = 1;
            for (int i = 0; i < size && i < spots.length; i++) {
                int able = one.selvesAt(spots[i]) > 0 ? 1 : 0;
                able += other.selvesAt(spots[i]) > 0 ? 1 : 0;
                ways *= able;
            }
            return ways;
        }
    }

    private static final class Image {
        private final Person[] people = new Person[MAX_PEOPLE];
        private final Tasks tasks = new Tasks();
        private final Glimpses glimpses = new Glimpses();
        private boolean kept;
        private int peopleCount;

        Image() {
            for (int i = 0; i < people.length; i++) {
                people[i] = new Person();
            }
        }

        void keep(int newPeopleCount, Tasks newTasks, Glimpses newGlimpses) {
            kept = true;
            peopleCount = newPeopleCount;
            tasks.copyFrom(newTasks);
            glimpses.copyFrom(newGlimpses);
        }

        void giveBack(Tasks toTasks, Glimpses toGlimpses) {
            toTasks.copyFrom(tasks);
            toGlimpses.copyFrom(glimpses);
        }

        /** PEOPLE never go while the HOUSE stands: as many now as then means that nobody came since. */
        boolean isOf(int peopleNow) {
            return kept && peopleCount == peopleNow;
        }

        void drop() {
            kept = false;
        }

        Person personAt(int person) {
            return person >= 0 && person < people.length ? people[person] : null;
        }
    }

    /** Looks for the SHORTEST LIFE, trying all of no STEPS, then all of one, and so on. */
    private static final class Search {
        private static final int MAX_STEPS = 6;

        /**
         * For so many STEPS and each spot the TASKS that can be DONE from it by them, MET or not; NONE until asked for.
         * A way whose TASKS stay out of reach even so is left at once, or the dearest searches would take too long.
         */
        private final int[] reach = new int[(MAX_STEPS + 1) * SPOTS];
        /** For each MINUTE the ROOMS, as bits, in which there is a SELF by now. */
        private final int[] roomsTaken = new int[MINUTES];
        private int kind;
        private int leap;
        private int set;
        private int steps;
        private int firstStep;

        void begin(int ofKind, int leapOfKind, Tasks tasks, int tasksToDo) {
            kind = ofKind;
            leap = leapOfKind;
            set = tasksToDo;
            steps = NONE;
            firstStep = NONE;
            for (int i = 0; i < roomsTaken.length; i++) {
                roomsTaken[i] = 0;
            }
            for (int i = 0; i < reach.length; i++) {
                reach[i] = i < SPOTS ? tasks.doneAt(i) : NONE;
            }
        }

        void look(House house, int start) {
            if (!covers(reachFrom(this, house, start, MAX_STEPS))) {
                return;
            }
            for (int most = 0; most <= MAX_STEPS && steps == NONE; most++) {
                if (finishes(this, house, start, 0, most)) {
                    steps = most;
                }
            }
        }

        int steps() {
            return steps;
        }

        int firstStep() {
            return firstStep;
        }

        private static int reachFrom(Search s, House house, int spot, int left) {
            if (spot < 0 || spot >= SPOTS || left < 0 || left > MAX_STEPS) {
                return 0;
            }
            int place = left * SPOTS + spot;
            if (s.reach[place] != NONE) {
                return s.reach[place];
            }
            int bits = reachFrom(s, house, spot, left - 1);
            for (int step = 0; step < STEP_SORTS; step++) {
                bits |= reachFrom(s, house, house.spotAfter(spot, step, s.leap), left - 1);
            }
            s.reach[place] = bits;
            return bits;
        }

        /** Whether a LIFE that has DONE some TASKS ahead of this spot can do the rest in so many STEPS left. */
        private static boolean finishes(Search s, House house, int spot, int doneBefore, int left) {
            if (left < 0 || !s.covers(doneBefore | reachFrom(s, house, spot, left)) || s.isMetAt(house, spot)) {
                return false;
            }
            int done = doneBefore | reachFrom(s, house, spot, 0);
            if (s.covers(done)) {
                return true;
            }
            boolean found = false;
            s.enter(spot);
            for (int step = 0; step < STEP_SORTS && !found; step++) {
                int next = house.spotAfter(spot, step, s.leap);
                found = next != NONE && finishes(s, house, next, done, left - 1);
                if (found) {
                    // the outermost call comes last, so what stays is the first STEP of all
                    s.firstStep = step;
                }
            }
            s.leave(spot);
            return found;
        }

        private boolean covers(int done) {
            return (done & set) == set;
        }

        private boolean isMetAt(House house, int spot) {
            int minute = minuteOf(spot);
            int taken = minute >= 0 && minute < roomsTaken.length ? roomsTaken[minute] : 0;
            return (taken & house.meetingRooms(kind, roomOf(spot))) != 0;
        }

        private void enter(int spot) {
            int minute = minuteOf(spot);
            if (minute >= 0 && minute < roomsTaken.length) {
                roomsTaken[minute] |= 1 << roomOf(spot);
            }
        }

        /** A spot taken twice is a meeting, but for those who are never MET and need no marks: one bit is enough. */
        private void leave(int spot) {
            int minute = minuteOf(spot);
            if (minute >= 0 && minute < roomsTaken.length) {
                roomsTaken[minute] &= ~(1 << roomOf(spot));
            }
        }
    }

    /** A LIFE by a SEED, of which only how it is by now is told. */
    private static final class Walk {
        private int spot;
        private int throughs;
        private int seed;

        void begin(int start, int firstSeed) {
            spot = start;
            throughs = 0;
            seed = firstSeed;
        }

        void go(House house, int leap, int steps) {
            for (int i = 0; i < steps; i++) {
                int ways = waysOn(house, leap);
                if (ways < 1) {
                    return;
                }
                take(house, leap, draw(ways));
            }
        }

        int tell(int what) {
            switch (what) {
                case 0:
                    return minuteOf(spot);
                case 1:
                    return roomOf(spot);
                case 2:
                    return throughs;
                default:
                    return seed;
            }
        }

        private int waysOn(House house, int leap) {
            int ways = 0;
            for (int step = 0; step < STEP_SORTS; step++) {
                ways += house.spotAfter(spot, step, leap) == NONE ? 0 : 1;
            }
            return ways;
        }

        private void take(House house, int leap, int drawn) {
            int ahead = drawn;
            for (int step = 0; step < STEP_SORTS; step++) {
                int next = house.spotAfter(spot, step, leap);
                if (next == NONE) {
                    continue;
                }
                if (ahead == 0) {
                    spot = next;
                    throughs += step == THROUGH ? 1 : 0;
                    return;
                }
                ahead--;
            }
        }

        private int draw(int ways) {
            seed = (int) (1103515245L * seed + 12345L & 0x7fffffffL);
            return ways < 1 ? 0 : seed / 65536 % ways;
        }
    }
}
