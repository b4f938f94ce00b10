import java.util.ArrayList;
import java.util.List;

/** The edges of promises 25 to 28: the IMAGE, and what is told of all. */
final class WholeEdges extends Edges {
    static void all() {
        image();
        restore();
        restoreRefused();
        count();
        digest();
    }

    private static void image() {
        chapter("Promise 25: image");
        says("An IMAGE is kept (one; the latest): how many PEOPLE.");
        edge("image: of no PEOPLE", 0, () -> housed(HOUSE).image());
        edge("image: of one PERSON without a LIFE", 1, () -> lifeless().image());
        edge("image: of four PEOPLE", 4, () -> full().image());
        edge("image: the latest one, of LIVES", 1, () -> {
            HourAgo x = lead(kept(), 0, "595");
            x.image();
            lead(x, 0, "301t");
            x.restore();
            return x.about(0, 1);
        });
        edge("image: the latest one, of TASKS and GLIMPSES", 32, () -> {
            HourAgo x = kept();
            x.image();
            x.task(0, 0, 0);
            x.forget();
            x.restore();
            return 10 * x.count(4) + x.count(3);
        });
        edge("image: no part in what comes then", 2, () -> {
            HourAgo x = full();
            x.image();
            x.blank();
            lead(x, 0, "301.");
            return x.about(0, 1);
        });
        edge("image: nothing else is changed", () -> {
            HourAgo x = kept();
            long digest = x.digest();
            x.image();
            is(digest, x.digest());
        });
        says("STATE: no HOUSE.");
        refusal("image: no HOUSE", STATE, HourAgo::new, HourAgo::image);
        edge("image: one that is refused is none", STATE, () -> {
            HourAgo x = page(HOUSE);
            x.image();
            x.house();
            return x.restore();
        });
    }

    private static void restore() {
        chapter("Promise 26: restore");
        says("It goes on from the IMAGE: how many PEOPLE.");
        edge("restore: no PEOPLE", 0, () -> {
            HourAgo x = housed(HOUSE);
            x.image();
            return x.restore();
        });
        edge("restore: four PEOPLE", 4, () -> full().restore());
        edge("restore: at once, nothing is changed", () -> {
            HourAgo x = full();
            x.restore();
            isAs(full(), x);
        });
        edge("restore: LIVES are as then", 5, () -> {
            HourAgo x = lead(kept(), 0, "595");
            x.restore();
            return x.about(0, 1);
        });
        edge("restore: STEPS through THE LOW DOOR are as then", 1, () -> {
            HourAgo x = lead(kept(), 0, "595");
            x.restore();
            return x.about(0, 2);
        });
        edge("restore: DOORS that are gone through are as then", 0, () -> {
            HourAgo x = lead(kept(), 0, "302323");
            is(2, x.locked());
            x.restore();
            return x.locked();
        });
        edge("restore: who had no LIFE has none", NONE, () -> {
            HourAgo x = kept();
            x.restore();
            return x.about(1, 3);
        });
        edge("restore: TASKS are as then", 1, () -> {
            HourAgo x = kept();
            x.restore();
            return x.count(3);
        });
        edge("restore: the next TASK is numbered on from then", 1, () -> {
            HourAgo x = kept();
            x.restore();
            return x.task(5, 0, 0);
        });
        edge("restore: five TASKS are full again", FULL, () -> {
            HourAgo x = full();
            x.restore();
            return x.task(0, 0, 0);
        });
        edge("restore: GLIMPSES are as then", 2, () -> {
            HourAgo x = kept();
            x.restore();
            return x.count(4);
        });
        edge("restore: eight GLIMPSES are full again", FULL, () -> {
            HourAgo x = full();
            x.forget();
            x.restore();
            return x.glimpse(0, 0);
        });
        edge("restore: the IMAGE stays", 2, () -> {
            HourAgo x = kept();
            x.restore();
            x.forget();
            x.restore();
            return x.count(4);
        });
        edge("restore: what comes behind it has no part in the IMAGE", 5, () -> {
            HourAgo x = kept();
            x.restore();
            lead(x, 0, "595");
            x.task(0, 0, 0);
            x.restore();
            is(1, x.count(3));
            return x.about(0, 1);
        });
        edge("restore: THE PAGE stays", 45, () -> {
            HourAgo x = full();
            x.restore();
            return x.count(5);
        });
        edge("restore: how often a HOUSE was read stays", 1, () -> {
            HourAgo x = full();
            x.restore();
            return x.count(6);
        });
        edge("restore: KINDS stay", 12, () -> {
            HourAgo x = lone(HOUSE, BLIND, "301");
            x.person(CHILD);
            x.image();
            x.restore();
            return 10 * x.about(0, 0) + x.about(1, 0);
        });
    }

    private static void restoreRefused() {
        says("STATE: none was kept, or there is another HOUSE, or PEOPLE came, since.");
        refusal("restore: none was kept, nor is there a HOUSE", STATE, HourAgo::new, HourAgo::restore);
        refusal("restore: none was kept in a HOUSE", STATE, Bench::furnished, HourAgo::restore);
        refusal("restore: there is another HOUSE since", STATE, WholeEdges::moved, HourAgo::restore);
        refusal("restore: there is another HOUSE of the same text since", STATE, WholeEdges::movedBack,
            HourAgo::restore);
        refusal("restore: there is another HOUSE since, with as many PEOPLE", STATE, () -> {
            HourAgo x = movedBack();
            x.person(PERSON);
            x.person(CAT);
            return x;
        }, HourAgo::restore);
        refusal("restore: one PERSON came since", STATE, () -> {
            HourAgo x = kept();
            x.person(CAT);
            return x;
        }, HourAgo::restore);
        refusal("restore: the first PERSON came since", STATE, () -> {
            HourAgo x = housed(HOUSE);
            x.image();
            x.person(CAT);
            return x;
        }, HourAgo::restore);
        edge("restore: an IMAGE of no PEOPLE in another HOUSE is none", STATE, () -> {
            HourAgo x = housed(HOUSE);
            x.image();
            put(x, "01;11");
            x.house();
            return x.restore();
        });
        edge("restore: a HOUSE that was refused since is none", 2, () -> {
            HourAgo x = put(kept(), "01;1");
            x.house();
            return x.restore();
        });
        edge("restore: a PERSON who was refused since did not come", 4, () -> {
            HourAgo x = full();
            x.person(PERSON);
            x.person(5);
            return x.restore();
        });
        edge("restore: an IMAGE behind another HOUSE is one", 0, () -> {
            HourAgo x = moved();
            x.image();
            return x.restore();
        });
        edge("restore: an IMAGE behind a PERSON who came is one", 3, () -> {
            HourAgo x = kept();
            x.person(CAT);
            x.image();
            return x.restore();
        });
    }

    private static HourAgo moved() {
        HourAgo x = put(kept(), "45;59");
        x.house();
        return x;
    }

    private static HourAgo movedBack() {
        HourAgo x = put(kept(), HOUSE);
        x.house();
        return x;
    }

    private static void dueCounts(HourAgo x, int... wants) {
        for (int what = 0; what < wants.length; what++) {
            is(wants[what], x.count(what));
        }
    }

    private static void count() {
        chapter("Promise 27: count");
        says("How many: 0 DOORS, 1 SIGHTS, 2 PEOPLE, 3 TASKS, 4 GLIMPSES, 5 letters of THE PAGE, 6 how often a HOUSE "
            + "was read, 7 how often shortest() was done, 8 BACK (0: no HOUSE), 9 the ROOM of THE LOW DOOR (NONE).");
        edge("count: a new object", () -> dueCounts(new HourAgo(), 0, 0, 0, 0, 0, 0, 0, 0, 0, NONE));
        edge("count: the least HOUSE", () -> dueCounts(housed("01;01"), 1, 0, 0, 0, 0, 0, 1, 0, 1, 0));
        edge("count: all that an object holds", () -> dueCounts(full(), 10, 4, 4, 5, 8, 45, 1, 0, 1, 1));
        edge("count: BACK 9 and ROOM 5", () -> dueCounts(housed("01;59;23"), 1, 1, 0, 0, 0, 0, 1, 0, 9, 5));
        edge("count: shortest() was done 30 times", 30, () -> tired().count(7));
        edge("count: a HOUSE was read three times", 3, () -> {
            HourAgo x = put(movedBack(), "01;11");
            x.house();
            return x.count(6);
        });
        edge("count: a HOUSE that was refused was not read", 1, () -> {
            HourAgo x = put(kept(), "01");
            x.house();
            return x.count(6);
        });
        edge("count: what is read of a HOUSE that is refused is not told", () -> {
            HourAgo x = put(kept(), "45;59;01,1");
            x.house();
            x.fault(0);
            dueCounts(x, 3, 1, 2, 2, 3, 10, 1, 0, 3, 1);
        });
        says("OUTSIDE.");
        refusal("count: there is no what -1", OUTSIDE, Bench::kept, x -> x.count(-1));
        refusal("count: there is no what 10", OUTSIDE, Bench::kept, x -> x.count(10));
        refusal("count: there is no what at the ends of int", OUTSIDE, Bench::kept, x -> x.count(LEAST),
            x -> x.count(MOST));
        refusal("count: there is no what 10 without a HOUSE", OUTSIDE, HourAgo::new, x -> x.count(10));
    }

    private static void digest() {
        chapter("Promise 28: digest");
        says("h is 683, then for each of these numbers, in order, 31 times h, and it (as longs, wrapping): with a "
            + "HOUSE for each a, each b above it what between() tells, LOCKED; of each PERSON what about() tells for 0 "
            + "to 4, MET, what most() tells for 0 and 1, which TASKS are DONE; for each a, each b above it MEET, PAIR; "
            + "WHOSE; letters of THE PAGE, each by its code; what count() tells for 0 to 9.");
        edge("digest: a new object", mixed(683, 0, 0, 0, 0, 0, 0, 0, 0, 0, 0, NONE), () -> new HourAgo().digest());
        edge("digest: no HOUSE, letters of codes 1 and 126", mixed(683, 0, 1, 126, 0, 0, 0, 0, 0, 2, 0, 0, 0, NONE),
            () -> page("\u0001~").digest());
        edge("digest: a HOUSE without PEOPLE", () -> {
            long h = mixed(683, 1, 2, 0, 0, 0, 1, 0, 0, 0, 1, 0, 0, 0, 0, 0, NONE);
            is(mixed(h, 0, 3, 1, 0, 0, 0, 0, 1, 0, 3, 1), housed(HOUSE).digest());
        });
        edge("digest: one PERSON without a LIFE, and no pair", () -> {
            long h = mixed(683, 1, 2, 0, 0, 0, 1, 0, 0, 0, 1, 0, 0, 0, 0, 0, NONE);
            h = mixed(h, 0, 0, 0, NONE, NONE, NONE, 0, NONE, 0);
            is(mixed(h, 1, 3, 1, 1, 0, 0, 0, 1, 0, 3, 1), lifeless().digest());
        });
        edge("digest: two PEOPLE, a TASK, two GLIMPSES", () -> {
            long h = mixed(683, 1, 2, 0, 0, 0, 1, 0, 0, 0, 1, 0, 0, 0, 0, 0, 0);
            h = mixed(h, 0, 5, 1, 24, 1, NONE, 2, 24, 1);
            h = mixed(h, 4, 0, 0, NONE, NONE, NONE, 0, NONE, 0);
            is(mixed(h, NONE, 1, 1, 3, 1, 2, 1, 2, 0, 1, 0, 3, 1), furnished().digest());
        });
        edge("digest: all that an object holds, wrapping", () -> {
            HourAgo x = full();
            is(mixed(683, numbersOf(x)), x.digest());
        });
        edge("digest: shortest() done 30 times", () -> {
            HourAgo x = tired();
            is(mixed(683, numbersOf(x)), x.digest());
        });
        edge("digest: nothing is changed", () -> {
            HourAgo x = full();
            x.digest();
            isAs(full(), x);
        });
    }

    /** Of an object whose PAGE holds nothing but "~". */
    private static long[] numbersOf(HourAgo x) {
        List<Integer> all = new ArrayList<>();
        for (int pair = 0; pair < 36; pair++) {
            if (pair / 6 < pair % 6) {
                all.add(x.between(pair / 6, pair % 6));
            }
        }
        all.add(x.locked());
        for (int who = 0; who < x.count(2); who++) {
            for (int what = 0; what < 5; what++) {
                all.add(x.about(who, what));
            }
            all.addAll(List.of(x.met(who), x.most(who, 0), x.most(who, 1), x.done(who)));
        }
        for (int a = 0; a < x.count(2); a++) {
            for (int b = a + 1; b < x.count(2); b++) {
                all.addAll(List.of(x.meet(a, b), x.pair(a, b)));
            }
        }
        all.add(x.whose());
        for (int i = 0; i < x.count(5); i++) {
            all.add((int) '~');
        }
        for (int what = 0; what < 10; what++) {
            all.add(x.count(what));
        }
        return all.stream().mapToLong(i -> i).toArray();
    }
}
