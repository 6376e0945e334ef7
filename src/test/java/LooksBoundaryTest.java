/** The boundary cases that the promises 14 to 26 of DOC.md name, sentence by sentence. */
public final class LooksBoundaryTest extends Checks {
    private static final int[] NO_PARTS = {0, -1, 3, 5, 24, 31, 33, 63, 64, 65, 257, -32, Integer.MIN_VALUE, Integer.MAX_VALUE};

    public static void main(String[] args) {
        runAll(LooksBoundaryTest.class);
    }

    /** Two fights of the risk 1 for the person 0, insured, with one rehearsal by the persons 0 and 7. */
    private static StuntDesk deskWithFights() {
        StuntDesk desk = new StuntDesk();
        desk.scene(0, 1, 0);
        desk.scene(0, 1, 0);
        desk.insure(1, 60);
        play(desk, "0r01;7r01");
        return desk;
    }

    private static StuntDesk deskWithTenScenes() {
        StuntDesk desk = new StuntDesk();
        for (int i = 0; i < 10; i++) {
            desk.scene(0, 1, i % 8);
        }
        return desk;
    }

    /** No scene, one scene, two of them and ten: the number just behind the last is refused. */
    private static void sceneNumbers(NumberCall call) {
        Maker one = () -> {
            StuntDesk desk = new StuntDesk();
            desk.scene(0, 1, 0);
            return desk;
        };
        refuses(StuntDesk::new, "the scene 0 of none", INDEX, d -> call.answer(d, 0));
        range(one, "of one scene", 0, 0, INDEX, call);
        range(LooksBoundaryTest::deskWithFights, "of two scenes", 0, 1, INDEX, call);
        range(LooksBoundaryTest::deskWithTenScenes, "of ten scenes", 0, 9, INDEX, call);
        refuses(() -> {
            StuntDesk desk = deskWithTenScenes();
            desk.undo();
            return desk;
        }, "one that is undone", INDEX, d -> call.answer(d, 9));
    }

    // ---- Promise 14: person

    static void promise14Range() {
        sentence("Promise 14: person", "`person`: 0 to 7");
        range(StuntDesk::new, "person", 0, 7, INDEX, (d, person) -> d.person(person, 6));
        sentence("Promise 14: person", "Throws `IndexOutOfBoundsException` if there is no such person");
        range(LooksBoundaryTest::deskWithFights, "person", 0, 7, INDEX, (d, person) -> d.person(person, 0));
        refuses(StuntDesk::new, "what is wrong too", INDEX, d -> d.person(8, -1));
        sentence("Promise 14: person", "Throws `IllegalArgumentException` if what is not 0 to 6");
        range(StuntDesk::new, "what", 0, 6, ARGUMENT, (d, what) -> d.person(7, what));
    }

    static void promise14Size() {
        sentence("Promise 14: person", "`what`: 0: the size;");
        StuntDesk desk = new StuntDesk();
        for (int size : new int[] {150, 200, 170}) {
            desk.size(7, size);
            due("the size", desk.person(7, 0), size);
            due("somebody else's", desk.person(6, 0), 170);
        }
    }

    static void promise14Hurt() {
        sentence("Promise 14: person", "1: a mask of the parts that are hurt today;");
        StuntDesk desk = deskOnDay(4);
        due("none", desk.person(0, 1), 0);
        for (int i = 0; i < 6; i++) {
            desk.hurt(0, PARTS[i], i + 1);
        }
        int[] masks = {63, 62, 60, 56, 48, 32, 0};
        int[] last = {9, 9, 9, 9, 9, 9, NONE};
        for (int day = 0; day < 7; day++) {
            due("day " + day, desk.person(0, 1), masks[day]);
            due("somebody else", desk.person(1, 1), 0);
            desk.pass(1);
        }
        sentence("Promise 14: person", "2: the last day on which an injury in force today is in force, NONE without one;");
        for (int day = 6; day >= 2; day--) {
            desk.undo();
            due("the last day, on the day " + day, desk.person(0, 2), last[day]);
        }
        StuntDesk order = new StuntDesk();
        order.hurt(0, 1, 5);
        order.hurt(0, 2, 2);
        due("the later one of both", order.person(0, 2), 4);
        order.hurt(1, 2, 60);
        due("not somebody else's", order.person(0, 2), 4);
        order.hurt(0, 2, 6);
        due("told later", order.person(0, 2), 5);
        due("sixty days", order.person(1, 2), 59);
        StuntDesk one = new StuntDesk();
        one.hurt(0, 1, 1);
        due("today alone, on the day 0", one.person(0, 2), 0);
        one.pass(1);
        due("none on the day 1", one.person(0, 2), NONE);
    }

    static void promise14Rehearsals() {
        sentence("Promise 14: person", "3: rehearsals today (that count, or by which the person was hurt);");
        StuntDesk desk = new StuntDesk();
        for (int time = 1; time <= 6; time++) {
            desk.rehearse(7, 4, 1);
            due("times", desk.person(7, 3), time);
            due("somebody else", desk.person(6, 3), 0);
        }
        desk.undo();
        due("undone", desk.person(7, 3), 5);
        desk.pass(1);
        due("none on the next day", desk.person(7, 3), 0);
        desk.undo();
        due("that day again", desk.person(7, 3), 5);
        desk.hurt(7, 32, 1);
        thrownBy(() -> desk.rehearse(7, 4, 1));
        due("a refused one is none", desk.person(7, 3), 5);
        StuntDesk often = new StuntDesk();
        for (int time = 1; time <= 60; time++) {
            often.rehearse(7, 4, 1);
        }
        due("more than are kept", often.person(7, 3), 60);
    }

    static void promise14Shots() {
        sentence("Promise 14: person", "4: the latest day on which the person shot, NONE without one; 5: scenes shot so far;");
        StuntDesk desk = deskWithFights();
        due("none", desk.person(7, 4), NONE);
        due("no scene", desk.person(7, 5), 0);
        desk.shoot(1, 7);
        due("the day 0", desk.person(7, 4), 0);
        due("one scene", desk.person(7, 5), 1);
        due("who is seen did not shoot", desk.person(0, 4), NONE);
        due("nor so far", desk.person(0, 5), 0);
        desk.pass(2);
        due("still the day 0", desk.person(7, 4), 0);
        desk.shoot(0, 7);
        due("the later day, of the scene told first", desk.person(7, 4), 2);
        due("two scenes", desk.person(7, 5), 2);
        desk.undo();
        due("undone", desk.person(7, 4) * 10 + desk.person(7, 5), 1);
    }

    static void promise14Kinds() {
        sentence("Promise 14: person", "6: a mask of the kinds that are barred today, with the bit k for the kind k");
        int[] kinds = {1 + 4 + 32, 1 + 4 + 32, 2 + 4, 2 + 4, 2 + 4 + 8, 4 + 8 + 16 + 32};
        for (int i = 0; i < 6; i++) {
            StuntDesk desk = new StuntDesk();
            due("none", desk.person(7, 6), 0);
            desk.hurt(7, PARTS[i], 2);
            due("by the part " + PARTS[i], desk.person(7, 6), kinds[i]);
            desk.pass(1);
            due("on its last day", desk.person(7, 6), kinds[i]);
            desk.pass(1);
            due("behind it", desk.person(7, 6), 0);
        }
        StuntDesk all = new StuntDesk();
        for (int part : PARTS) {
            all.hurt(0, part, 1);
        }
        due("all", all.person(0, 6), 63);
    }

    // ---- Promise 15: rehearsed

    static void promise15Range() {
        sentence("Promise 15: rehearsed", "`person`: 0 to 7");
        range(StuntDesk::new, "person", 0, 7, INDEX, (d, person) -> d.rehearsed(person, 5, 5));
        sentence("Promise 15: rehearsed", "`kind`: 0 to 5");
        range(StuntDesk::new, "kind", 0, 5, INDEX, (d, kind) -> d.rehearsed(7, kind, 5));
        sentence("Promise 15: rehearsed", "Throws `IndexOutOfBoundsException` if there is no such person or kind");
        refuses(LooksBoundaryTest::deskWithFights, "neither, and a wrong risk", INDEX, d -> d.rehearsed(8, 6, 6));
        refuses(LooksBoundaryTest::deskWithFights, "no such person", INDEX, d -> d.rehearsed(-1, 0, 1));
        refuses(LooksBoundaryTest::deskWithFights, "no such kind", INDEX, d -> d.rehearsed(0, -1, 1));
        sentence("Promise 15: rehearsed", "Throws `IllegalArgumentException` if risk is out of range");
        range(StuntDesk::new, "risk", 1, 5, ARGUMENT, (d, risk) -> d.rehearsed(7, 5, risk));
    }

    static void promise15Risk() {
        sentence("Promise 15: rehearsed", "`risk`: 1 to 5: those with at least this risk less 1");
        for (int rehearsed = 1; rehearsed <= 5; rehearsed++) {
            StuntDesk desk = new StuntDesk();
            desk.rehearse(0, 3, rehearsed);
            for (int risk = 1; risk <= 5; risk++) {
                due(rehearsed + " for " + risk, desk.rehearsed(0, 3, risk), rehearsed >= risk - 1 ? 1 : 0);
            }
        }
    }

    static void promise15Today() {
        sentence("Promise 15: rehearsed", "Returns how many rehearsals of someone count today.");
        for (int kind = 0; kind < 6; kind++) {
            StuntDesk desk = new StuntDesk();
            due("none", desk.rehearsed(0, kind, 1), 0);
            rehearse(desk, 3, 0, kind, 1);
            desk.rehearse(0, kind, 1);
            due("three, and one that hurts", desk.rehearsed(0, kind, 1), 3);
            due("somebody else's", desk.rehearsed(1, kind, 1), 0);
            due("of another kind", desk.rehearsed(0, (kind + 1) % 6, 1), 0);
            desk.pass(COUNTING_DAYS[kind] - 1);
            due("the last day", desk.rehearsed(0, kind, 1), 3);
            desk.rehearse(0, kind, 1);
            due("and one today", desk.rehearsed(0, kind, 1), 4);
            desk.pass(1);
            due("only this one", desk.rehearsed(0, kind, 1), 1);
        }
    }

    // ---- Promise 16: kind

    static void promise16() {
        sentence("Promise 16: kind", "`kind`: 0 to 5");
        range(StuntDesk::new, "kind", 0, 5, INDEX, (d, kind) -> d.kind(kind, 5, 2));
        sentence("Promise 16: kind", "`risk`: 1 to 5");
        range(StuntDesk::new, "risk", 1, 5, ARGUMENT, (d, risk) -> d.kind(5, risk, 2));
        sentence("Promise 16: kind", "Throws `IndexOutOfBoundsException` if there is no such kind");
        range(LooksBoundaryTest::deskWithFights, "kind", 0, 5, INDEX, (d, kind) -> d.kind(kind, 1, 0));
        refuses(StuntDesk::new, "the rest is wrong too", INDEX, d -> d.kind(6, 6, 3));
        sentence("Promise 16: kind", "Throws `IllegalArgumentException` if risk is out of range, or what is not 0 to 2");
        range(LooksBoundaryTest::deskWithFights, "risk", 1, 5, ARGUMENT, (d, risk) -> d.kind(0, risk, 0));
        range(LooksBoundaryTest::deskWithFights, "risk", 1, 5, ARGUMENT, (d, risk) -> d.kind(0, risk, 1));
        range(StuntDesk::new, "what", 0, 2, ARGUMENT, (d, what) -> d.kind(5, 5, what));
        sentence("Promise 16: kind", "`what`: 0: the rehearsals that it needs; 1: the days for which they count;"
                + " 2: the mask of the parts by which it is barred");
        int[] lowest = {1, 2, 2, 3, 1, 1};
        int[] highest = {5, 6, 10, 7, 3, 5};
        StuntDesk desk = new StuntDesk();
        for (int kind = 0; kind < 6; kind++) {
            due("needed for the risk 1", desk.kind(kind, 1, 0), lowest[kind]);
            due("needed for the risk 5", desk.kind(kind, 5, 0), highest[kind]);
            due("days", desk.kind(kind, 5, 1), COUNTING_DAYS[kind]);
            due("parts", desk.kind(kind, 5, 2), BARRING_PARTS[kind]);
        }
    }

    // ---- Promise 17: sceneOf

    static void promise17Range() {
        sentence("Promise 17: sceneOf", "`scene`: its number");
        sceneNumbers((d, scene) -> d.sceneOf(scene, 5));
        sentence("Promise 17: sceneOf", "Throws `IndexOutOfBoundsException` if there is no such scene");
        for (int what = 0; what <= 5; what++) {
            int asked = what;
            refuses(LooksBoundaryTest::deskWithFights, "the number " + what, INDEX, d -> d.sceneOf(2, asked));
        }
        refuses(StuntDesk::new, "what is wrong too", INDEX, d -> d.sceneOf(0, 6));
        sentence("Promise 17: sceneOf", "Throws `IllegalArgumentException` if what is not 0 to 5");
        range(LooksBoundaryTest::deskWithFights, "what", 0, 5, ARGUMENT, (d, what) -> d.sceneOf(1, what));
    }

    static void promise17Told() {
        sentence("Promise 17: sceneOf", "`what`: 0: its kind; 1: its risk; 2: who is seen;");
        StuntDesk desk = new StuntDesk();
        desk.scene(0, 1, 0);
        desk.scene(5, 5, 7);
        due("the lowest", desk.sceneOf(0, 0) * 100 + desk.sceneOf(0, 1) * 10 + desk.sceneOf(0, 2), 10);
        due("the highest", desk.sceneOf(1, 0) * 100 + desk.sceneOf(1, 1) * 10 + desk.sceneOf(1, 2), 557);
    }

    static void promise17Numbers() {
        sentence("Promise 17: sceneOf", "3: the day on which it was shot, NONE if it is not; 4: who did it, NONE likewise;");
        StuntDesk desk = deskWithFights();
        due("no day", desk.sceneOf(0, 3), NONE);
        due("nobody", desk.sceneOf(0, 4), NONE);
        desk.shoot(0, 0);
        due("the day 0", desk.sceneOf(0, 3), 0);
        due("the person 0", desk.sceneOf(0, 4), 0);
        due("not the other scene", desk.sceneOf(1, 3), NONE);
        desk.pass(19);
        desk.shoot(1, 7);
        due("the day 19", desk.sceneOf(1, 3), 19);
        due("the person 7", desk.sceneOf(1, 4), 7);
        due("still the day 0", desk.sceneOf(0, 3), 0);
    }

    static void promise17Cleared() {
        sentence("Promise 17: sceneOf", "5: a mask of those who are cleared today, with the bit p for the person p");
        StuntDesk desk = new StuntDesk();
        desk.scene(0, 1, 3);
        due("not insured", desk.sceneOf(0, 5), 0);
        desk.insure(1, 1);
        int mask = 0;
        for (int person = 0; person < 8; person++) {
            due("up to " + person, desk.sceneOf(0, 5), mask);
            desk.rehearse(person, 0, 1);
            mask |= 1 << person;
        }
        due("all", desk.sceneOf(0, 5), 255);
        desk.shoot(0, 3);
        due("a shot one", desk.sceneOf(0, 5), 0);
    }

    // ---- Promise 18: count

    static void promise18Range() {
        sentence("Promise 18: count", "Throws `IllegalArgumentException` if what is not 0 to 10");
        range(StuntDesk::new, "what", 0, 10, ARGUMENT, StuntDesk::count);
        range(LooksBoundaryTest::deskWithTenScenes, "what", 0, 10, ARGUMENT, StuntDesk::count);
    }

    static void promise18DayAndPurse() {
        sentence("Promise 18: count", "`what`: 0: the day; 1: the purse;");
        StuntDesk desk = new StuntDesk();
        due("the first day", desk.count(0), 0);
        due("the full purse", desk.count(1), 2000);
        desk.insure(5, 60);
        desk.insure(5, 20);
        due("the empty purse", desk.count(1), 0);
        pass(desk, 999);
        due("the last day", desk.count(0), 999);
    }

    static void promise18Insurance() {
        sentence("Promise 18: count", "2: the step of the insurance that is in force today; 3: the last day on which it is,"
                + " NONE without one;");
        StuntDesk desk = deskOnDay(940);
        due("none", desk.count(2) * 1000 + desk.count(3), NONE);
        desk.insure(5, 60);
        due("from today", desk.count(2) * 1000 + desk.count(3), 5999);
        desk.pass(59);
        due("on the last day", desk.count(2) * 1000 + desk.count(3), 5999);
        StuntDesk one = new StuntDesk();
        one.insure(1, 1);
        due("the day 0 alone", one.count(2) * 1000 + one.count(3), 1000);
        one.pass(1);
        due("none on the day 1", one.count(2) * 1000 + one.count(3), NONE);
    }

    static void promise18Scenes() {
        sentence("Promise 18: count", "4: scenes; 5: shot ones; 6: of these by doubles;");
        StuntDesk desk = deskWithTenScenes();
        desk.insure(1, 60);
        play(desk, "0r01;1r01;2r01;3r01;4r01;5r01;6r01;7r01");
        due("none is shot", desk.count(4) * 100 + desk.count(5) * 10 + desk.count(6), 1000);
        for (int person = 0; person < 8; person++) {
            desk.shoot(person, person);
            due("shot ones", desk.count(5), person + 1);
        }
        due("none by a double", desk.count(6), 0);
        desk.pass(2);
        desk.shoot(8, 7);
        due("one by a double", desk.count(6), 1);
        StuntDesk first = deskWithFights();
        first.shoot(0, 7);
        due("the first one by a double", first.count(6), 1);
        desk.shoot(9, 6);
        due("all", desk.count(4) * 100 + desk.count(5) * 10 + desk.count(6), 1000 + 100 + 2);
    }

    static void promise18SoFar() {
        sentence("Promise 18: count", "7: injuries so far; 8: rehearsals so far, also those by which someone was hurt;");
        StuntDesk desk = new StuntDesk();
        for (int i = 1; i <= 20; i++) {
            desk.hurt(7, 32, 1);
            due("injuries, more than are kept", desk.count(7), i);
        }
        for (int i = 1; i <= 60; i++) {
            desk.rehearse(i % 2, 4, 1);
            due("rehearsals, more than are kept", desk.count(8), i);
        }
        due("54 of them hurt", desk.count(7), 20 + 54);
        desk.pass(99);
        due("later too", desk.count(7) * 100 + desk.count(8), 7460);
    }

    static void promise18CouldShoot() {
        sentence("Promise 18: count", "9: scenes that somebody could shoot today;");
        StuntDesk desk = deskWithTenScenes();
        due("none", desk.count(9), 0);
        desk.insure(1, 20);
        due("without rehearsals", desk.count(9), 0);
        desk.rehearse(7, 0, 1);
        due("all by one", desk.count(9), 10);
        desk.rehearse(0, 0, 1);
        due("by two, no more", desk.count(9), 10);
        desk.size(7, 200);
        desk.hurt(0, 1, 1);
        due("only the own one", desk.count(9), 1);
        desk.pass(1);
        due("somebody is healed", desk.count(9), 10);
        desk.shoot(7, 7);
        due("not the shot one", desk.count(9), 9);
        desk.pass(18);
        due("on the last day", desk.count(9), 9);
        desk.pass(1);
        due("behind it", desk.count(9), 0);
    }

    static void promise18Saved() {
        sentence("Promise 18: count", "10: saved states");
        StuntDesk desk = new StuntDesk();
        for (int calls = 0; calls <= 14; calls++) {
            due("behind " + calls + " calls", desk.count(10), Math.min(calls, 6));
            desk.size(0, 150 + calls);
        }
        for (int left = 5; left >= 0; left--) {
            desk.undo();
            due("left", desk.count(10), left);
        }
    }

    // ---- Promise 19: refusal

    static void promise19() {
        sentence("Promise 19: refusal", "`scene`: its number");
        sceneNumbers((d, scene) -> d.refusal(scene, 7));
        sentence("Promise 19: refusal", "`person`: 0 to 7");
        range(LooksBoundaryTest::deskWithFights, "person", 0, 7, INDEX, (d, person) -> d.refusal(1, person));
        sentence("Promise 19: refusal", "Throws `IndexOutOfBoundsException` if there is no such scene or person");
        refuses(StuntDesk::new, "without scenes", INDEX, d -> d.refusal(0, 0));
        refuses(LooksBoundaryTest::deskWithFights, "no such scene", INDEX, d -> d.refusal(2, 0));
        refuses(LooksBoundaryTest::deskWithFights, "no such person", INDEX, d -> d.refusal(0, 8));
        refuses(LooksBoundaryTest::deskWithFights, "neither", INDEX, d -> d.refusal(-1, -1));
        sentence("Promise 19: refusal", "Returns the reason, 1 to 6; 0 if this one is cleared.");
        StuntDesk desk = deskWithFights();
        due("cleared", desk.refusal(0, 0), 0);
        due("not rehearsed", desk.refusal(0, 1), 6);
        desk.shoot(1, 0);
        due("a day off", desk.refusal(0, 0), 5);
        desk.hurt(0, 1, 1);
        due("barred", desk.refusal(0, 0), 4);
        desk.pass(60);
        due("not insured", desk.refusal(0, 0), 3);
        desk.size(7, 164);
        due("not alike", desk.refusal(0, 7), 2);
        due("shot", desk.refusal(1, 7), 1);
    }

    // ---- Promise 20: soonest

    static void promise20Range() {
        sentence("Promise 20: soonest", "`scene`: its number");
        sceneNumbers((d, scene) -> d.soonest(scene, 7));
        sentence("Promise 20: soonest", "`person`: 0 to 7");
        range(LooksBoundaryTest::deskWithFights, "person", 0, 7, INDEX, (d, person) -> d.soonest(1, person));
        sentence("Promise 20: soonest", "Throws `IndexOutOfBoundsException` if there is no such scene or person");
        refuses(StuntDesk::new, "without scenes", INDEX, d -> d.soonest(0, 0));
        refuses(LooksBoundaryTest::deskWithFights, "no such scene", INDEX, d -> d.soonest(2, 0));
        refuses(LooksBoundaryTest::deskWithFights, "no such person", INDEX, d -> d.soonest(0, 8));
        refuses(LooksBoundaryTest::deskWithFights, "neither", INDEX, d -> d.soonest(-1, -1));
    }

    /** Somebody is cleared for water, but for an injury of so many days. */
    private static StuntDesk deskWithWater(int day, int insured, int hurt) {
        StuntDesk desk = deskOnDay(day);
        desk.scene(4, 1, 0);
        desk.insure(1, insured);
        desk.rehearse(0, 4, 1);
        if (hurt > 0) {
            desk.hurt(0, 32, hurt);
        }
        return desk;
    }

    static void promise20Day() {
        sentence("Promise 20: soonest", "Returns the day, today to 60 days from now (also behind the day 999);"
                + " NONE if on none of these.");
        for (int day : new int[] {0, 7, 970, 999}) {
            due("today", deskWithWater(day, 60, 0).soonest(0, 0), day);
            due("insured today alone", deskWithWater(day, 1, 0).soonest(0, 0), day);
            due("tomorrow", deskWithWater(day, 60, 1).soonest(0, 0), day + 1);
            due("on the last day of the insurance", deskWithWater(day, 2, 1).soonest(0, 0), day + 1);
            due("not behind the insurance", deskWithWater(day, 1, 1).soonest(0, 0), NONE);
            due("on the last day of the rehearsal", deskWithWater(day, 60, 29).soonest(0, 0), day + 29);
            due("not behind the rehearsal", deskWithWater(day, 60, 30).soonest(0, 0), NONE);
            due("not behind 60 days", deskWithWater(day, 60, 60).soonest(0, 0), NONE);
        }
    }

    static void promise20OnlyDaysPass() {
        sentence("Promise 20: soonest", "Tells when someone is cleared for a scene at the soonest, if nothing is done but"
                + " that days pass.");
        StuntDesk desk = deskWithFights();
        due("not rehearsed", desk.soonest(0, 1), NONE);
        desk.shoot(0, 0);
        due("shot", desk.soonest(0, 7), NONE);
        due("behind a shot", desk.soonest(1, 0), 2);
        desk.pass(1);
        due("the day behind a shot", desk.soonest(1, 0), 2);
        desk.pass(1);
        due("two days behind it", desk.soonest(1, 0), 2);
        desk.pass(1);
        due("today", desk.soonest(1, 0), 3);
        due("the day is the same", desk.count(0), 3);
        desk.hurt(7, 1, 3);
        desk.hurt(7, 2, 5);
        desk.hurt(7, 1, 4);
        due("behind the longest injury", desk.soonest(1, 7), 8);
        desk.hurt(7, 4, 60);
        due("an injury that does not bar", desk.soonest(1, 7), 8);
        desk.size(7, 200);
        due("not alike", desk.soonest(1, 7), NONE);
        for (int injury = 0; injury <= 8; injury++) {
            StuntDesk next = deskWithFights();
            next.pass(5);
            next.hurt(0, 1, injury + 1);
            int told = next.soonest(0, 0);
            for (int day = 6; day < told; day++) {
                next.pass(1);
                due("not yet on the day " + day, next.refusal(0, 0), 4);
            }
            next.pass(1);
            due("cleared then", next.count(0) == told ? next.refusal(0, 0) : NONE, 0);
        }
    }

    // ---- Promise 21: lacking

    static void promise21() {
        sentence("Promise 21: lacking", "`scene`: its number");
        sceneNumbers((d, scene) -> d.lacking(scene, 7));
        sentence("Promise 21: lacking", "`person`: 0 to 7");
        range(LooksBoundaryTest::deskWithFights, "person", 0, 7, INDEX, (d, person) -> d.lacking(1, person));
        sentence("Promise 21: lacking", "Throws `IndexOutOfBoundsException` if there is no such scene or person");
        refuses(StuntDesk::new, "without scenes", INDEX, d -> d.lacking(0, 0));
        refuses(LooksBoundaryTest::deskWithFights, "no such scene", INDEX, d -> d.lacking(2, 0));
        refuses(LooksBoundaryTest::deskWithFights, "no such person", INDEX, d -> d.lacking(0, 8));
        refuses(LooksBoundaryTest::deskWithFights, "neither", INDEX, d -> d.lacking(-1, -1));
        sentence("Promise 21: lacking", "Returns how many more rehearsals of its risk this one would need today,"
                + " 0 if there are enough.");
        StuntDesk desk = new StuntDesk();
        desk.scene(2, 5, 0);
        desk.scene(0, 3, 0);
        due("the most", desk.lacking(0, 7), 10);
        for (int done = 1; done <= 11; done++) {
            if (done % 3 == 1 && done > 1) {
                desk.pass(1);
            }
            desk.rehearse(7, 2, 4);
            due("behind " + done, desk.lacking(0, 7), Math.max(0, 10 - done));
        }
        desk.pass(6);
        due("the last day of the first three", desk.lacking(0, 7), 0);
        desk.pass(1);
        due("the day behind it", desk.lacking(0, 7), 2);
        due("three for a fight", desk.lacking(1, 0), 3);
        desk.rehearse(0, 0, 1);
        due("one of a risk that is too low", desk.lacking(1, 0), 3);
        desk.rehearse(0, 0, 2);
        due("one of the lowest risk that counts", desk.lacking(1, 0), 2);
        due("somebody else", desk.lacking(1, 1), 3);
        StuntDesk shot = deskWithFights();
        shot.shoot(0, 0);
        due("none for a shot one", shot.lacking(0, 0), 0);
        due("one for a shot one", shot.lacking(0, 1), 1);
        shot.size(1, 200);
        due("one for someone who does not look alike", shot.lacking(1, 1), 1);
    }

    // ---- Promise 22: best

    static void promise22Range() {
        sentence("Promise 22: best", "`scene`: its number");
        sceneNumbers(StuntDesk::best);
        sentence("Promise 22: best", "Throws `IndexOutOfBoundsException` if there is no such scene");
        refuses(StuntDesk::new, "without scenes", INDEX, d -> d.best(0));
        refuses(LooksBoundaryTest::deskWithTenScenes, "the eleventh", INDEX, d -> d.best(10));
    }

    static void promise22Who() {
        sentence("Promise 22: best", "Returns who looks alike, or is the one who is seen, is not barred by an injury today,"
                + " and lacks the fewest rehearsals;");
        StuntDesk desk = new StuntDesk();
        desk.scene(0, 2, 3);
        desk.size(0, 164);
        desk.size(1, 165);
        desk.size(6, 175);
        desk.size(7, 176);
        rehearse(desk, 2, 0, 0, 1);
        rehearse(desk, 2, 7, 0, 1);
        due("a gap of 6 is too much", desk.best(0), 3);
        rehearse(desk, 1, 6, 0, 1);
        due("a gap of 5", desk.best(0), 6);
        rehearse(desk, 2, 1, 0, 1);
        due("a gap of 5 downwards, with fewer lacking", desk.best(0), 1);
        desk.hurt(1, 1, 2);
        due("one who is barred", desk.best(0), 6);
        desk.pass(1);
        due("on the last day of it", desk.best(0), 6);
        desk.pass(1);
        due("behind it", desk.best(0), 1);
        desk.hurt(1, 32, 60);
        due("an injury that does not bar", desk.best(0), 1);
        desk.pass(17);
        due("the last day of the rehearsals", desk.best(0), 1);
        desk.pass(1);
        due("the day behind it", desk.best(0), 3);
    }

    static void promise22OfSeveral() {
        sentence("Promise 22: best", "of several the one who is seen, otherwise the one whose size is nearest, of several"
                + " the lowest;");
        StuntDesk desk = new StuntDesk();
        desk.scene(0, 1, 7);
        due("the one who is seen, though others are lower", desk.best(0), 7);
        desk.rehearse(7, 0, 1);
        desk.rehearse(2, 0, 1);
        desk.rehearse(2, 0, 1);
        due("more than enough is no better", desk.best(0), 7);
        desk.hurt(7, 1, 60);
        due("otherwise the fewest lacking", desk.best(0), 2);
        desk.hurt(2, 1, 60);
        due("otherwise the lowest", desk.best(0), 0);
        int[] sizes = {165, 166, 170, 168, 172, 171, 169};
        for (int person = 0; person < 7; person++) {
            desk.size(person, sizes[person]);
        }
        due("a gap of 1, of both the lowest", desk.best(0), 5);
        desk.hurt(5, 1, 60);
        due("a gap of 1 downwards", desk.best(0), 6);
        desk.hurt(6, 1, 60);
        due("a gap of 2, of both the lowest", desk.best(0), 3);
        desk.rehearse(0, 0, 1);
        due("the fewest lacking go ahead of the size", desk.best(0), 0);
        StuntDesk nearer = new StuntDesk();
        nearer.scene(0, 1, 7);
        nearer.hurt(7, 1, 60);
        for (int person = 0; person < 7; person++) {
            nearer.size(person, 200);
        }
        for (int person = 6; person > 0; person--) {
            nearer.size(person, 170 - person + 1);
            due("of two the nearer, who is the lower, from " + person, nearer.best(0), person);
            nearer.size(0, 170 + person);
            due("not one who is farther and lower", nearer.best(0), person);
        }
        StuntDesk first = new StuntDesk();
        first.scene(0, 1, 0);
        due("the one who is seen is the lowest", first.best(0), 0);
        first.hurt(0, 1, 60);
        due("the next", first.best(0), 1);
        first.size(1, 171);
        due("the next of the same size", first.best(0), 2);
    }

    static void promise22None() {
        sentence("Promise 22: best", "NONE if there is none, or the scene is shot.");
        StuntDesk desk = deskWithFights();
        desk.shoot(0, 0);
        due("shot", desk.best(0), NONE);
        due("the other one, with a day off", desk.best(1), 0);
        desk.undo();
        due("not shot", desk.best(0), 0);
        for (int person = 0; person < 8; person++) {
            due("barred are those below " + person, desk.best(0), person == 0 ? 0 : 7);
            desk.hurt(person, 2, 2);
        }
        due("all are barred", desk.best(0), NONE);
        desk.pass(1);
        due("on the last day", desk.best(0), NONE);
        desk.pass(1);
        due("behind it", desk.best(0), 0);
        StuntDesk bare = new StuntDesk();
        bare.scene(2, 5, 4);
        due("without insurance or rehearsals", bare.best(0), 4);
    }

    // ---- Promise 23: cost

    static void promise23() {
        sentence("Promise 23: cost", "`step`: 1 to 5");
        range(StuntDesk::new, "step", 1, 5, ARGUMENT, (d, step) -> d.cost(step, 60));
        sentence("Promise 23: cost", "`days`: 1 to 60");
        range(StuntDesk::new, "days", 1, 60, ARGUMENT, (d, days) -> d.cost(5, days));
        sentence("Promise 23: cost", "Throws `IllegalArgumentException` if step or days is out of range");
        range(LooksBoundaryTest::deskWithFights, "step", 1, 5, ARGUMENT, (d, step) -> d.cost(step, 1));
        range(LooksBoundaryTest::deskWithFights, "days", 1, 60, ARGUMENT, (d, days) -> d.cost(1, days));
        refuses(StuntDesk::new, "both", ARGUMENT, d -> d.cost(0, 0));
        sentence("Promise 23: cost", "Tells what insurance would cost now.");
        StuntDesk desk = new StuntDesk();
        due("the lowest", desk.cost(1, 1), 1);
        due("the highest", desk.cost(5, 60), 1500);
        desk.insure(5, 60);
        due("more than is in the purse", desk.cost(5, 60), 1500);
        due("nothing is bought", desk.count(1), 500);
        desk.hurt(0, 1, 1);
        due("a tenth of 1", desk.cost(1, 1), 1);
        for (int i = 0; i < 8; i++) {
            desk.hurt(0, 1, 1);
        }
        due("nine tenths of 1", desk.cost(1, 1), 1);
        desk.hurt(0, 1, 1);
        due("ten tenths of 1", desk.cost(1, 1), 2);
        due("ten tenths of the highest", desk.cost(5, 60), 3000);
        desk.undo();
        due("nine again", desk.cost(1, 1), 1);
    }

    // ---- Promise 24: ifHurt

    static void promise24Range() {
        sentence("Promise 24: ifHurt", "`person`: 0 to 7");
        range(StuntDesk::new, "person", 0, 7, INDEX, (d, person) -> d.ifHurt(person, 32));
        sentence("Promise 24: ifHurt", "Throws `IndexOutOfBoundsException` if there is no such person");
        range(LooksBoundaryTest::deskWithFights, "person", 0, 7, INDEX, (d, person) -> d.ifHurt(person, 1));
        refuses(StuntDesk::new, "the part is wrong too", INDEX, d -> d.ifHurt(8, 0));
        sentence("Promise 24: ifHurt", "`part`: 1, 2, 4, 8, 16 or 32");
        for (int part : PARTS) {
            takes("the part " + part, () -> new StuntDesk().ifHurt(7, part));
        }
        sentence("Promise 24: ifHurt", "Throws `IllegalArgumentException` if part is none of these");
        for (int part : NO_PARTS) {
            refuses(LooksBoundaryTest::deskWithFights, "the part " + part, ARGUMENT, d -> d.ifHurt(0, part));
        }
    }

    static void promise24Scenes() {
        sentence("Promise 24: ifHurt", "Returns how many scenes could be shot by somebody today, but not any more, if this"
                + " person was hurt there (and no other injury went for it).");
        due("without scenes", new StuntDesk().ifHurt(0, 1), 0);
        StuntDesk full = deskWithTenScenes();
        full.insure(1, 20);
        due("none could be shot", full.ifHurt(0, 1), 0);
        full.rehearse(0, 0, 1);
        due("all ten", full.ifHurt(0, 1), 10);
        for (int part : PARTS) {
            due("the part " + part, full.ifHurt(0, part), part <= 2 ? 10 : 0);
            due("of somebody else", full.ifHurt(1, part), 0);
        }
        full.size(0, 175);
        full.size(1, 169);
        due("all but the two of the person 1", full.ifHurt(0, 1), 8);
        full.rehearse(7, 0, 1);
        due("another one could do them too", full.ifHurt(0, 1), 0);
        full.size(7, 200);
        due("the own one of the other", full.ifHurt(7, 1), 1);
        due("all but the two of the person 1, and that one", full.ifHurt(0, 1), 7);
        full.shoot(2, 0);
        due("a day off", full.ifHurt(0, 1), 0);
        full.pass(2);
        due("one is shot", full.ifHurt(0, 1), 6);
        full.hurt(0, 1, 1);
        due("hurt anyhow", full.ifHurt(0, 2), 0);
        full.pass(17);
        due("the last day", full.ifHurt(0, 1), 6);
        full.pass(1);
        due("the day behind it", full.ifHurt(0, 1), 0);
    }

    static void promise24NoInjuryGoes() {
        sentence("Promise 24: ifHurt", "(and no other injury went for it)");
        StuntDesk healed = new StuntDesk();
        rehearse(healed, 1, 1, 0, 1);
        rehearse(healed, 1, 0, 0, 1);
        healed.hurt(1, 1, 60);
        for (int i = 0; i < 11; i++) {
            healed.hurt(6, 32, 60);
        }
        healed.scene(0, 1, 0);
        healed.insure(1, 60);
        due("the oldest of twelve stays", healed.ifHurt(0, 1), 1);
        due("nothing is noted", healed.count(7), 12);
        healed.hurt(7, 32, 1);
        due("a thirteenth that is told drops it", healed.ifHurt(0, 1), 0);
    }

    // ---- Promise 25: shotShare

    static void promise25() {
        sentence("Promise 25: shotShare", "Returns the scenes that are shot, as a double, divided by all; 1.0 without scenes.");
        StuntDesk desk = new StuntDesk();
        due("without scenes", Double.toString(desk.shotShare()), "1.0");
        desk.scene(0, 1, 0);
        due("none of one", Double.toString(desk.shotShare()), "0.0");
        desk.undo();
        due("without scenes again", Double.toString(desk.shotShare()), "1.0");
        for (int all = 1; all <= 10; all++) {
            StuntDesk shooting = new StuntDesk();
            for (int i = 0; i < all; i++) {
                shooting.scene(0, 1, 0);
            }
            shooting.insure(1, 60);
            for (int shot = 0; shot < all; shot++) {
                due(shot + " of " + all, Double.toString(shooting.shotShare()), Double.toString((double) shot / all));
                if (shot == 8) {
                    shooting.pass(2);
                }
                if (shot < 8) {
                    shooting.rehearse(shot, 0, 1);
                }
                shooting.shoot(shot, shot % 8);
            }
            due("all of " + all, Double.toString(shooting.shotShare()), "1.0");
        }
    }

    // ---- Promise 26: digest

    static void promise26() {
        sentence("Promise 26: digest", "The hash starts at 3527. For each value v of the following list, in order, the hash"
                + " becomes 31 * hash + v, in long arithmetic with overflow.");
        digestOf(StuntDesk::new, "");
        digestOf(LooksBoundaryTest::deskWithFights, "");
        digestOf(LooksBoundaryTest::deskWithTenScenes, "");
        digestOf(() -> deskWithWater(999, 60, 29), "");
        for (int kind = 0; kind < 6; kind++) {
            int only = kind;
            digestOf(() -> {
                StuntDesk desk = new StuntDesk();
                desk.scene(only, 1, 3);
                desk.insure(1, 1);
                rehearse(desk, 3, 3, only, 1);
                return desk;
            }, "");
        }
        sentence("Promise 26: digest", "the length of the buffer and each of its character codes.");
        for (String text : new String[] {"!", "~", "+1;x", "+1;".repeat(20), "~".repeat(60)}) {
            digestOf(() -> type(new StuntDesk(), text), text);
        }
        digestOf(() -> {
            StuntDesk desk = type(new StuntDesk(), "~".repeat(60));
            desk.clearBuffer();
            return type(desk, "!");
        }, "!");
        sentence("Promise 26: digest", "the bits of shotShare (as Double.doubleToLongBits);");
        for (int all = 1; all <= 7; all++) {
            for (int done = 0; done <= all; done++) {
                int scenes = all;
                int shots = done;
                digestOf(() -> {
                    StuntDesk desk = new StuntDesk();
                    desk.insure(1, 9);
                    for (int i = 0; i < scenes; i++) {
                        desk.scene(0, 1, i);
                    }
                    for (int i = 0; i < shots; i++) {
                        desk.rehearse(i, 0, 1);
                        desk.shoot(i, i);
                    }
                    return desk;
                }, "");
            }
        }
    }

    /** Asks one desk for its digest, and a like one for all of which the digest is made. */
    private static void digestOf(Maker maker, String buffer) {
        long hash = digestByLooks(maker.make(), buffer);
        StuntDesk asked = maker.make();
        due("the digest", asked.digest(), hash);
        due("the digest again", asked.digest(), hash);
    }
}
