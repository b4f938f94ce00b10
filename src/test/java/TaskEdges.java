/** The edges of promises 17 to 19: TASKS, and the SHORTEST LIVES by which they are DONE. */
final class TaskEdges extends Edges {
    static void all() {
        task();
        done();
        shortest();
        shortestRefused();
        shortestState();
    }

    private static HourAgo five() {
        HourAgo x = kept();
        for (int i = 0; i < 3; i++) {
            x.task(1, 24, 24);
        }
        return x;
    }

    private static void task() {
        chapter("Promise 17: task");
        says("A TASK: its number.");
        edge("TASKS are numbered from 0 to 4", () -> {
            HourAgo x = housed(HOUSE);
            for (int i = 0; i < 5; i++) {
                is(i, x.task(i, i, 59));
            }
            is(5, x.count(3));
        });
        edge("a TASK in ROOM 0 from MINUTE 0 to 0", 0, () -> housed(HOUSE).task(0, 0, 0));
        edge("a TASK in ROOM 5 from MINUTE 59 to 59", 0, () -> housed(HOUSE).task(5, 59, 59));
        edge("a TASK from MINUTE 0 to 59", 0, () -> housed(HOUSE).task(5, 0, 59));
        edge("a TASK may come twice", 1, () -> {
            HourAgo x = housed(HOUSE);
            x.task(5, 0, 59);
            return x.task(5, 0, 59);
        });
        edge("a TASK that comes changes no other one", 1, () -> {
            HourAgo x = furnished();
            x.task(5, 0, 0);
            return x.done(0);
        });
        says("UNKNOWN: room; OUTSIDE: from, to (from to 59); STATE: no HOUSE; FULL.");
        refusal("task: ROOM -1", UNKNOWN, Bench::kept, x -> x.task(-1, 0, 0));
        refusal("task: ROOM 6", UNKNOWN, Bench::kept, x -> x.task(6, 0, 0));
        refusal("task: ROOMS at the ends of int", UNKNOWN, Bench::kept, x -> x.task(LEAST, 0, 0),
            x -> x.task(MOST, 0, 0));
        refusal("task: from MINUTE -1", OUTSIDE, Bench::kept, x -> x.task(0, -1, 0));
        refusal("task: from MINUTE 60", OUTSIDE, Bench::kept, x -> x.task(0, 60, 60));
        refusal("task: from MINUTES at the ends of int", OUTSIDE, Bench::kept, x -> x.task(0, LEAST, 0),
            x -> x.task(0, MOST, MOST));
        refusal("task: to the MINUTE ahead of from", OUTSIDE, Bench::kept, x -> x.task(0, 30, 29),
            x -> x.task(0, 59, 58), x -> x.task(0, 1, 0));
        refusal("task: to MINUTE -1", OUTSIDE, Bench::kept, x -> x.task(0, 0, -1), x -> x.task(0, -1, -1));
        refusal("task: to MINUTE 60", OUTSIDE, Bench::kept, x -> x.task(0, 59, 60), x -> x.task(0, 0, 60));
        refusal("task: to MINUTES at the ends of int", OUTSIDE, Bench::kept, x -> x.task(0, 0, LEAST),
            x -> x.task(0, 0, MOST), x -> x.task(0, LEAST, MOST));
        refusal("task: no HOUSE", STATE, HourAgo::new, x -> x.task(0, 0, 0));
        refusal("task: a sixth one", FULL, TaskEdges::five, x -> x.task(0, 0, 0), x -> x.task(5, 59, 59));
        refusal("task: ROOM is told ahead of MINUTES", UNKNOWN, Bench::kept, x -> x.task(6, -1, 60),
            x -> x.task(-1, 1, 0));
        refusal("task: ROOM is told ahead of no HOUSE", UNKNOWN, HourAgo::new, x -> x.task(6, 0, 0));
        refusal("task: MINUTES are told ahead of no HOUSE", OUTSIDE, HourAgo::new, x -> x.task(0, 1, 0),
            x -> x.task(0, -1, 0), x -> x.task(0, 0, 60));
        refusal("task: ROOM is told ahead of FULL", UNKNOWN, TaskEdges::five, x -> x.task(6, 0, 0));
        refusal("task: MINUTES are told ahead of FULL", OUTSIDE, TaskEdges::five, x -> x.task(0, 1, 0),
            x -> x.task(0, -1, 0), x -> x.task(0, 0, 60));
    }

    private static void done() {
        chapter("Promise 18: done");
        says("All TASKS that a PERSON has DONE, as bits.");
        edge("done: no TASKS", 0, () -> lone(HOUSE, PERSON, "301").done(0));
        edge("done: none of one", 0, () -> {
            HourAgo x = lone(HOUSE, PERSON, "301");
            x.task(1, 29, 29);
            return x.done(0);
        });
        edge("done: the first alone is 1", 1, () -> doneOfFive(0));
        edge("done: the fifth alone is 16", 16, () -> doneOfFive(4));
        edge("done: all five are 31", 31, () -> full().done(1));
        edge("done: none without a LIFE", 0, () -> furnished().done(1));
        edge("done: a TASK that came ahead of the LIFE", 1, () -> {
            HourAgo x = housed(HOUSE);
            x.task(1, 30, 30);
            alive(x, PERSON, "301");
            return x.done(0);
        });
        edge("done: a TASK that another PERSON alone has DONE", 0, () -> full().done(3));
        says("UNKNOWN.");
        refusal("done: nobody", UNKNOWN, Bench::kept, x -> x.done(-1), x -> x.done(2));
        refusal("done: a fifth of the PEOPLE", UNKNOWN, Bench::full, x -> x.done(4));
        refusal("done: PEOPLE at the ends of int", UNKNOWN, Bench::kept, x -> x.done(LEAST), x -> x.done(MOST));
        refusal("done: nobody without a HOUSE", UNKNOWN, HourAgo::new, x -> x.done(0));
    }

    /** By one who is where that one of five TASKS alone is. */
    private static long doneOfFive(int task) {
        HourAgo x = lone(HOUSE, PERSON, "301");
        for (int i = 0; i < 5; i++) {
            x.task(i == task ? 1 : 2, 30, 30);
        }
        return x.done(0);
    }

    private static HourAgo tasked(int... rooms) {
        HourAgo x = housed(HOUSE);
        for (int room : rooms) {
            x.task(room, 0, 59);
        }
        return x;
    }

    private static void shortest() {
        chapter("Promise 19: shortest");
        says("SHORTEST: what = 0 how many STEPS, 1 the first (NONE: none is needed); NONE: not in 6.");
        edge("shortest: no STEPS", 0, () -> tasked(1).shortest(PERSON, 30, 1, 1, 0));
        edge("shortest: NONE of no STEPS is the first", NONE, () -> tasked(1).shortest(PERSON, 30, 1, 1, 1));
        edge("shortest: six STEPS", 6, () -> within(36, 0));
        edge("shortest: the first of six STEPS", 1, () -> within(36, 1));
        edge("shortest: not in 6, how many", NONE, () -> within(37, 0));
        edge("shortest: not in 6, the first", NONE, () -> within(37, 1));
        edge("shortest: KIND 0", 1, () -> tasked(0).shortest(0, 30, 1, 1, 0));
        edge("shortest: KIND 4", 1, () -> tasked(0).shortest(4, 30, 1, 1, 0));
        edge("shortest: from MINUTE 0 on", 1, () -> tasked(0).shortest(PERSON, 0, 1, 1, 0));
        edge("shortest: from MINUTE 59 on, by THE LOW DOOR", 2, () -> tasked(0).shortest(PERSON, 59, 1, 1, 0));
        edge("shortest: from ROOM 0 on", 3, () -> tasked(3).shortest(PERSON, 30, 0, 1, 0));
        edge("shortest: from ROOM 5 on", NONE, () -> tasked(3).shortest(PERSON, 30, 5, 1, 0));
        edge("shortest: the empty set, of no TASKS", 0, () -> tasked().shortest(PERSON, 30, 5, 0, 0));
        edge("shortest: the empty set, of five TASKS", 0, () -> tasked(0, 1, 2, 3, 4).shortest(PERSON, 30, 5, 0, 0));
        edge("shortest: the first of five TASKS alone", 1, () -> tasked(0, 3, 3, 3, 4).shortest(PERSON, 30, 1, 1, 0));
        edge("shortest: the fifth of five TASKS alone", 2, () -> tasked(0, 0, 4, 0, 3).shortest(PERSON, 30, 1, 16, 0));
        edge("shortest: all five TASKS", 3, () -> tasked(0, 1, 2, 3, 3).shortest(PERSON, 30, 0, 31, 0));
        edge("shortest: the TASKS of one call have no part in the next", () -> {
            HourAgo x = tasked(3, 0);
            is(2, x.shortest(PERSON, 30, 1, 1, 0));
            is(1, x.shortest(PERSON, 30, 1, 2, 0));
            is(4, x.shortest(PERSON, 30, 1, 3, 0));
            is(2, x.shortest(PERSON, 30, 1, 1, 0));
        });
        edge("shortest: no PEOPLE have a part in it", () -> {
            HourAgo x = kept();
            is(1, x.shortest(PERSON, 30, 1, 2, 0));
            HourAgo twin = kept();
            twin.shortest(PERSON, 0, 0, 0, 0);
            isAs(twin, x);
        });
    }

    /** From ROOM 0 in MINUTE 30 to ROOM 3, where the TASK begins in that MINUTE. */
    private static long within(int from, int what) {
        HourAgo x = housed(HOUSE);
        x.task(3, from, 59);
        return x.shortest(CLERK, 30, 0, 1, what);
    }

    private static void shortestRefused() {
        says("OUTSIDE: kind, minute; UNKNOWN: room; OUTSIDE: set (bits of TASKS), what; STATE: no HOUSE, or shortest() "
            + "was done 30 times ever (refusals do not count, all else does).");
        refusal("shortest: KIND -1", OUTSIDE, Bench::kept, x -> x.shortest(-1, 0, 0, 0, 0));
        refusal("shortest: KIND 5", OUTSIDE, Bench::kept, x -> x.shortest(5, 0, 0, 0, 0));
        refusal("shortest: KINDS at the ends of int", OUTSIDE, Bench::kept, x -> x.shortest(LEAST, 0, 0, 0, 0),
            x -> x.shortest(MOST, 0, 0, 0, 0));
        refusal("shortest: MINUTE -1", OUTSIDE, Bench::kept, x -> x.shortest(0, -1, 0, 0, 0));
        refusal("shortest: MINUTE 60", OUTSIDE, Bench::kept, x -> x.shortest(0, 60, 0, 0, 0));
        refusal("shortest: MINUTES at the ends of int", OUTSIDE, Bench::kept, x -> x.shortest(0, LEAST, 0, 0, 0),
            x -> x.shortest(0, MOST, 0, 0, 0));
        refusal("shortest: ROOM -1", UNKNOWN, Bench::kept, x -> x.shortest(0, 0, -1, 0, 0));
        refusal("shortest: ROOM 6", UNKNOWN, Bench::kept, x -> x.shortest(0, 0, 6, 0, 0));
        refusal("shortest: ROOMS at the ends of int", UNKNOWN, Bench::kept, x -> x.shortest(0, 0, LEAST, 0, 0),
            x -> x.shortest(0, 0, MOST, 0, 0));
        refusal("shortest: set -1", OUTSIDE, Bench::kept, x -> x.shortest(0, 0, 0, -1, 0));
        refusal("shortest: the bit of a TASK that has not come", OUTSIDE, Bench::kept,
            x -> x.shortest(0, 0, 0, 4, 0), x -> x.shortest(0, 0, 0, 7, 0));
        refusal("shortest: the bit of a TASK without TASKS", OUTSIDE, () -> housed(HOUSE),
            x -> x.shortest(0, 0, 0, 1, 0));
        refusal("shortest: the bit of a sixth TASK", OUTSIDE, Bench::full, x -> x.shortest(0, 0, 0, 32, 0),
            x -> x.shortest(0, 0, 0, 63, 0));
        refusal("shortest: sets at the ends of int", OUTSIDE, Bench::full, x -> x.shortest(0, 0, 0, LEAST, 0),
            x -> x.shortest(0, 0, 0, MOST, 0));
        refusal("shortest: what -1", OUTSIDE, Bench::kept, x -> x.shortest(0, 0, 0, 0, -1));
        refusal("shortest: what 2", OUTSIDE, Bench::kept, x -> x.shortest(0, 0, 0, 0, 2));
        refusal("shortest: what at the ends of int", OUTSIDE, Bench::kept, x -> x.shortest(0, 0, 0, 0, LEAST),
            x -> x.shortest(0, 0, 0, 0, MOST));
        refusal("shortest: no HOUSE", STATE, HourAgo::new, x -> x.shortest(0, 0, 0, 0, 0),
            x -> x.shortest(4, 59, 5, 0, 1));
        refusal("shortest: KIND is told ahead of ROOM", OUTSIDE, Bench::kept, x -> x.shortest(5, 0, 6, 0, 0));
        refusal("shortest: MINUTE is told ahead of ROOM", OUTSIDE, Bench::kept, x -> x.shortest(0, 60, 6, 0, 0));
        refusal("shortest: ROOM is told ahead of set", UNKNOWN, Bench::kept, x -> x.shortest(0, 0, 6, -1, 0));
        refusal("shortest: ROOM is told ahead of what", UNKNOWN, Bench::kept, x -> x.shortest(0, 0, 6, 0, 2));
        refusal("shortest: KIND and MINUTE are told ahead of no HOUSE", OUTSIDE, HourAgo::new,
            x -> x.shortest(5, 0, 0, 0, 0), x -> x.shortest(0, 60, 0, 0, 0));
        refusal("shortest: ROOM is told ahead of no HOUSE", UNKNOWN, HourAgo::new, x -> x.shortest(0, 0, 6, 0, 0));
        refusal("shortest: set and what are told ahead of no HOUSE", OUTSIDE, HourAgo::new,
            x -> x.shortest(0, 0, 0, 1, 0), x -> x.shortest(0, 0, 0, 0, 2));
    }

    private static void shortestState() {
        edge("shortest: the 30th time is answered", () -> {
            HourAgo x = tasked(1);
            for (int i = 1; i <= 30; i++) {
                is(1, x.shortest(PERSON, 30, 0, 1, 0));
                is(i, x.count(7));
            }
        });
        refusal("shortest: the 31st time", STATE, Bench::tired, x -> x.shortest(PERSON, 30, 1, 1, 0),
            x -> x.shortest(CAT, 59, 5, 0, 1));
        refusal("shortest: KIND and MINUTE are told ahead of 30 times", OUTSIDE, Bench::tired,
            x -> x.shortest(5, 0, 0, 0, 0), x -> x.shortest(0, 60, 0, 0, 0));
        refusal("shortest: ROOM is told ahead of 30 times", UNKNOWN, Bench::tired, x -> x.shortest(0, 0, 6, 0, 0));
        refusal("shortest: set and what are told ahead of 30 times", OUTSIDE, Bench::tired,
            x -> x.shortest(0, 0, 0, 2, 0), x -> x.shortest(0, 0, 0, 0, 2));
        edge("shortest: each refusal does not count", 0, () -> {
            HourAgo x = new HourAgo();
            x.shortest(0, 0, 0, 0, 0);
            put(x, HOUSE);
            x.house();
            x.shortest(5, 0, 0, 0, 0);
            x.shortest(0, 60, 0, 0, 0);
            x.shortest(0, 0, 6, 0, 0);
            x.shortest(0, 0, 0, 1, 0);
            x.shortest(0, 0, 0, 0, 2);
            return x.count(7);
        });
        edge("shortest: the answer NONE counts", 1, () -> {
            HourAgo x = tasked(5);
            is(NONE, x.shortest(PERSON, 30, 1, 1, 0));
            return x.count(7);
        });
        edge("shortest: the empty set counts", 1, () -> {
            HourAgo x = tasked(5);
            is(NONE, x.shortest(PERSON, 30, 1, 0, 1));
            return x.count(7);
        });
        edge("shortest: 30 times are ever, in another HOUSE, too", STATE, () -> {
            HourAgo x = put(tired(), "01;11");
            x.house();
            return x.shortest(PERSON, 30, 1, 0, 0);
        });
        edge("shortest: 30 times are ever, though an IMAGE is older", STATE, () -> {
            HourAgo x = housed(HOUSE);
            x.image();
            for (int i = 0; i < 30; i++) {
                x.shortest(PERSON, 30, 1, 0, 0);
            }
            x.restore();
            return x.shortest(PERSON, 30, 1, 0, 0);
        });
    }
}
