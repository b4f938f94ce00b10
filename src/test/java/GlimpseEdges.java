/** The edges of promises 20 to 24: GLIMPSES, whose they were, and LIVES by a SEED. */
final class GlimpseEdges extends Edges {
    static void all() {
        glimpse();
        forget();
        whose();
        pair();
        lives();
        livesRefused();
    }

    /** As many GLIMPSES as there can be, all of PERSON 0. */
    private static HourAgo eight() {
        HourAgo x = kept();
        for (int i = 0; i < 5; i++) {
            x.glimpse(26, 1);
        }
        return x;
    }

    private static void glimpse() {
        chapter("Promise 20: glimpse");
        says("A GLIMPSE: how many there are.");
        edge("GLIMPSES are counted from 1 to 8", () -> {
            HourAgo x = housed(HOUSE);
            for (int i = 1; i <= 8; i++) {
                is(i, x.glimpse(i, 1));
                is(i, x.count(4));
            }
        });
        edge("glimpse: ROOM 0 in MINUTE 0", 1, () -> housed(HOUSE).glimpse(0, 0));
        edge("glimpse: ROOM 5 in MINUTE 59", 1, () -> housed(HOUSE).glimpse(59, 5));
        edge("glimpse: one of MINUTE 0 is seen", 2, () -> seen(0, 0));
        edge("glimpse: one of MINUTE 59 is seen", 2, () -> seen(59, 5));
        says("OUTSIDE: minute; UNKNOWN: room; STATE: no HOUSE; FULL.");
        refusal("glimpse: MINUTE -1", OUTSIDE, Bench::kept, x -> x.glimpse(-1, 0));
        refusal("glimpse: MINUTE 60", OUTSIDE, Bench::kept, x -> x.glimpse(60, 0));
        refusal("glimpse: MINUTES at the ends of int", OUTSIDE, Bench::kept, x -> x.glimpse(LEAST, 0),
            x -> x.glimpse(MOST, 0));
        refusal("glimpse: ROOM -1", UNKNOWN, Bench::kept, x -> x.glimpse(0, -1));
        refusal("glimpse: ROOM 6", UNKNOWN, Bench::kept, x -> x.glimpse(0, 6));
        refusal("glimpse: ROOMS at the ends of int", UNKNOWN, Bench::kept, x -> x.glimpse(0, LEAST),
            x -> x.glimpse(0, MOST));
        refusal("glimpse: no HOUSE", STATE, HourAgo::new, x -> x.glimpse(0, 0), x -> x.glimpse(59, 5));
        refusal("glimpse: a ninth one", FULL, GlimpseEdges::eight, x -> x.glimpse(0, 0), x -> x.glimpse(59, 5));
        refusal("glimpse: MINUTE is told ahead of ROOM", OUTSIDE, Bench::kept, x -> x.glimpse(60, 6),
            x -> x.glimpse(-1, -1));
        refusal("glimpse: MINUTE is told ahead of no HOUSE", OUTSIDE, HourAgo::new, x -> x.glimpse(60, 0));
        refusal("glimpse: ROOM is told ahead of no HOUSE", UNKNOWN, HourAgo::new, x -> x.glimpse(0, 6));
        refusal("glimpse: MINUTE is told ahead of FULL", OUTSIDE, GlimpseEdges::eight, x -> x.glimpse(60, 0));
        refusal("glimpse: ROOM is told ahead of FULL", UNKNOWN, GlimpseEdges::eight, x -> x.glimpse(0, 6));
    }

    /** Who of two could be behind that GLIMPSE, of whom the second alone was there. */
    private static long seen(int minute, int room) {
        HourAgo x = lone(HOUSE, PERSON, "301");
        alive(x, PERSON, "" + minute / 10 + minute % 10 + room);
        x.glimpse(minute, room);
        return x.whose();
    }

    private static void forget() {
        chapter("Promise 21: forget");
        says("All GLIMPSES are gone: how many there were.");
        edge("forget: there were none", 0, () -> housed(HOUSE).forget());
        edge("forget: there were none without a HOUSE", 0, () -> new HourAgo().forget());
        edge("forget: there was one", 1, () -> {
            HourAgo x = housed(HOUSE);
            x.glimpse(0, 0);
            return x.forget();
        });
        edge("forget: there were eight", 8, () -> full().forget());
        edge("forget: they are gone", 0, () -> {
            HourAgo x = full();
            x.forget();
            return x.forget();
        });
        edge("forget: eight come anew", 8, () -> {
            HourAgo x = full();
            x.forget();
            for (int i = 0; i < 7; i++) {
                x.glimpse(0, 0);
            }
            return x.glimpse(0, 0);
        });
        edge("forget: the IMAGE keeps its own", 8, () -> {
            HourAgo x = full();
            x.forget();
            x.restore();
            return x.count(4);
        });
        edge("forget: PEOPLE, LIVES and TASKS stay", 22, () -> {
            HourAgo x = kept();
            x.forget();
            return 10 * x.count(2) + x.count(3);
        });
    }

    private static void whose() {
        chapter("Promise 22: whose");
        says("WHOSE, as bits.");
        edge("whose: no HOUSE", 0, () -> new HourAgo().whose());
        edge("whose: no PEOPLE, no GLIMPSES", 0, () -> housed(HOUSE).whose());
        edge("whose: no PEOPLE, a GLIMPSE", 0, () -> {
            HourAgo x = housed(HOUSE);
            x.glimpse(0, 0);
            return x.whose();
        });
        edge("whose: one without a LIFE, no GLIMPSES", 1, () -> lifeless().whose());
        edge("whose: all four without GLIMPSES are 15", 15, () -> {
            HourAgo x = full();
            x.forget();
            return x.whose();
        });
        edge("whose: the first alone is 1", 1, () -> full().whose());
        edge("whose: the fourth alone is 8", 8, () -> {
            HourAgo x = full();
            x.forget();
            x.glimpse(36, 1);
            return x.whose();
        });
        edge("whose: nobody", 0, () -> {
            HourAgo x = full();
            x.forget();
            x.glimpse(59, 5);
            return x.whose();
        });
        edge("whose: one is behind a GLIMPSE, another behind another: nobody behind both", 0, () -> {
            HourAgo x = full();
            x.forget();
            x.glimpse(59, 1);
            x.glimpse(0, 0);
            return x.whose();
        });
    }

    private static void pair() {
        chapter("Promise 23: pair");
        says("PAIR.");
        edge("pair: without GLIMPSES", 1, () -> ofBoth(0));
        edge("pair: eight GLIMPSES of both", 256, () -> ofBoth(8));
        edge("pair: without GLIMPSES and LIVES", 1, () -> {
            HourAgo x = lifeless();
            x.person(CAT);
            return x.pair(0, 1);
        });
        edge("pair: a GLIMPSE and no LIVES", 0, () -> {
            HourAgo x = lifeless();
            x.person(CAT);
            x.glimpse(30, 1);
            return x.pair(0, 1);
        });
        edge("pair: eight GLIMPSES of one, the other without a LIFE", 1, () -> lead(eight(), 1, "590").pair(0, 1));
        edge("pair: the other way round", 1, () -> eight().pair(1, 0));
        edge("pair: the first and the fourth of the PEOPLE", 16, () -> full().pair(0, 3));
        says("UNKNOWN: a, b, or they are the same.");
        refusal("pair: nobody and one", UNKNOWN, Bench::kept, x -> x.pair(-1, 0), x -> x.pair(2, 0));
        refusal("pair: one and nobody", UNKNOWN, Bench::kept, x -> x.pair(0, -1), x -> x.pair(0, 2));
        refusal("pair: a fifth of the PEOPLE", UNKNOWN, Bench::full, x -> x.pair(4, 0), x -> x.pair(0, 4));
        refusal("pair: PEOPLE at the ends of int", UNKNOWN, Bench::kept, x -> x.pair(LEAST, 0), x -> x.pair(0, LEAST),
            x -> x.pair(MOST, 0), x -> x.pair(0, MOST));
        refusal("pair: one and itself", UNKNOWN, Bench::kept, x -> x.pair(0, 0), x -> x.pair(1, 1));
        refusal("pair: nobody without a HOUSE", UNKNOWN, HourAgo::new, x -> x.pair(0, 1));
    }

    private static long ofBoth(int glimpses) {
        HourAgo x = lone(HOUSE, PERSON, "301");
        alive(x, CAT, "301");
        for (int i = 0; i < glimpses; i++) {
            x.glimpse(30, 1);
        }
        return x.pair(0, 1);
    }

    private static void lives() {
        chapter("Promise 24: lives");
        says("LIVES: what = 0 the MINUTE, 1 the ROOM in the end, 2 how often it went through THE LOW DOOR, 3 the SEED "
            + "then.");
        edge("lives: one STEP, \"t\"", () -> dueLives(PERSON, 1, 1, 5, 27, 1, 1, 1222621274));
        edge("lives: one STEP, \"t\", of a CHILD", () -> dueLives(CHILD, 1, 1, 5, 26, 1, 1, 1222621274));
        edge("lives: one STEP, \"t\", of KIND 4", () -> dueLives(CAT, 1, 1, 5, 27, 1, 1, 1222621274));
        edge("lives: one STEP, not \"t\"", () -> dueLives(PERSON, 1, 1, 0, 31, 0, 0, 12345));
        edge("lives: 16 STEPS", () -> dueLives(PERSON, 5, 16, 0, 46, 5, 0, (int) drawn(0, 16)));
        edge("lives: in ROOM 0 in the end", 0, () -> housed("12;13").lives(PERSON, 0, 16, 5, 1));
        edge("lives: through THE LOW DOOR never", 0, () -> housed("12;13").lives(PERSON, 0, 16, 5, 2));
        edge("lives: the least SEED", 12345, () -> housed(HOUSE).lives(PERSON, 1, 1, 0, 3));
        edge("lives: the greatest SEED", 1043980748, () -> housed(HOUSE).lives(PERSON, 1, 1, MOST, 3));
        edge("lives: nobody's LIFE, and nothing else, is changed", () -> {
            HourAgo x = kept();
            x.lives(PERSON, 1, 16, 5, 0);
            isAs(kept(), x);
        });
        edge("lives: where four PEOPLE are, and nobody else could come", 31, () -> full().lives(CHILD, 1, 1, 0, 0));
        edge("lives: one call has no part in the next", () -> {
            HourAgo x = housed(HOUSE);
            for (int i = 0; i < 3; i++) {
                is(27, x.lives(PERSON, 1, 1, 5, 0));
                is(1, x.lives(PERSON, 1, 1, 5, 2));
            }
        });
    }

    private static void dueLives(int kind, int room, int steps, int seed, int... wants) {
        HourAgo x = housed(HOUSE);
        for (int what = 0; what < wants.length; what++) {
            is(wants[what], x.lives(kind, room, steps, seed, what));
        }
    }

    private static void livesRefused() {
        says("OUTSIDE: kind; UNKNOWN: room; OUTSIDE: steps, seed (0 at least), what; STATE: no HOUSE.");
        refusal("lives: KIND -1", OUTSIDE, Bench::kept, x -> x.lives(-1, 0, 1, 0, 0));
        refusal("lives: KIND 5", OUTSIDE, Bench::kept, x -> x.lives(5, 0, 1, 0, 0));
        refusal("lives: KINDS at the ends of int", OUTSIDE, Bench::kept, x -> x.lives(LEAST, 0, 1, 0, 0),
            x -> x.lives(MOST, 0, 1, 0, 0));
        refusal("lives: ROOM -1", UNKNOWN, Bench::kept, x -> x.lives(0, -1, 1, 0, 0));
        refusal("lives: ROOM 6", UNKNOWN, Bench::kept, x -> x.lives(0, 6, 1, 0, 0));
        refusal("lives: ROOMS at the ends of int", UNKNOWN, Bench::kept, x -> x.lives(0, LEAST, 1, 0, 0),
            x -> x.lives(0, MOST, 1, 0, 0));
        refusal("lives: no STEPS", OUTSIDE, Bench::kept, x -> x.lives(0, 0, 0, 0, 0), x -> x.lives(0, 0, -1, 0, 0));
        refusal("lives: 17 STEPS", OUTSIDE, Bench::kept, x -> x.lives(0, 0, 17, 0, 0));
        refusal("lives: STEPS at the ends of int", OUTSIDE, Bench::kept, x -> x.lives(0, 0, LEAST, 0, 0),
            x -> x.lives(0, 0, MOST, 0, 0));
        refusal("lives: SEED -1", OUTSIDE, Bench::kept, x -> x.lives(0, 0, 1, -1, 0));
        refusal("lives: the SEED at the lower end of int", OUTSIDE, Bench::kept, x -> x.lives(0, 0, 1, LEAST, 0));
        refusal("lives: what -1", OUTSIDE, Bench::kept, x -> x.lives(0, 0, 1, 0, -1));
        refusal("lives: what 4", OUTSIDE, Bench::kept, x -> x.lives(0, 0, 1, 0, 4));
        refusal("lives: what at the ends of int", OUTSIDE, Bench::kept, x -> x.lives(0, 0, 1, 0, LEAST),
            x -> x.lives(0, 0, 1, 0, MOST));
        refusal("lives: no HOUSE", STATE, HourAgo::new, x -> x.lives(0, 0, 1, 0, 0), x -> x.lives(4, 5, 16, MOST, 3));
        refusal("lives: KIND is told ahead of ROOM", OUTSIDE, Bench::kept, x -> x.lives(5, 6, 1, 0, 0));
        refusal("lives: ROOM is told ahead of STEPS", UNKNOWN, Bench::kept, x -> x.lives(0, 6, 0, 0, 0));
        refusal("lives: ROOM is told ahead of SEED", UNKNOWN, Bench::kept, x -> x.lives(0, 6, 1, -1, 0));
        refusal("lives: ROOM is told ahead of what", UNKNOWN, Bench::kept, x -> x.lives(0, 6, 1, 0, 4));
        refusal("lives: KIND is told ahead of no HOUSE", OUTSIDE, HourAgo::new, x -> x.lives(5, 0, 1, 0, 0));
        refusal("lives: ROOM is told ahead of no HOUSE", UNKNOWN, HourAgo::new, x -> x.lives(0, 6, 1, 0, 0));
        refusal("lives: STEPS, SEED and what are told ahead of no HOUSE", OUTSIDE, HourAgo::new,
            x -> x.lives(0, 0, 17, 0, 0), x -> x.lives(0, 0, 1, -1, 0), x -> x.lives(0, 0, 1, 0, 4));
    }
}
