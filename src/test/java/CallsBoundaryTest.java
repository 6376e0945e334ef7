/** The boundary cases that the promises 1 to 13 of DOC.md name, sentence by sentence. */
public final class CallsBoundaryTest extends Checks {
    private static final int[] NO_PARTS = {0, -1, 3, 5, 24, 31, 33, 63, 64, 65, 257, -32, Integer.MIN_VALUE, Integer.MAX_VALUE};

    public static void main(String[] args) {
        runAll(CallsBoundaryTest.class);
    }

    /** Two fights of the risk 1 for the person 0, insured, with one rehearsal by the persons 0, 1 and 7. */
    private static StuntDesk deskWithFights() {
        StuntDesk desk = new StuntDesk();
        desk.scene(0, 1, 0);
        desk.scene(0, 1, 0);
        desk.insure(1, 60);
        play(desk, "0r01;1r01;7r01");
        return desk;
    }

    /** Somebody is hurt, the purse is nearly empty, and the day is near its end. */
    private static StuntDesk deskNearItsLimits() {
        StuntDesk desk = deskOnDay(995);
        desk.insure(5, 60);
        desk.insure(5, 19);
        desk.hurt(6, 32, 60);
        return desk;
    }

    // ---- Promise 1

    static void promise1() {
        sentence("Promise 1: A new object", "Creates people as told above, without scenes, with an empty buffer.");
        StuntDesk desk = new StuntDesk();
        int[] numbers = {170, 0, NONE, 0, NONE, 0, 0};
        for (int person = 0; person < 8; person++) {
            for (int what = 0; what < numbers.length; what++) {
                due("person " + person + ", " + what, desk.person(person, what), numbers[what]);
            }
        }
        int[] counts = {0, 2000, 0, NONE, 0, 0, 0, 0, 0, 0, 0};
        for (int what = 0; what < counts.length; what++) {
            due("count " + what, desk.count(what), counts[what]);
        }
        due("no scene", thrownBy(() -> desk.sceneOf(0, 0)), INDEX);
        due("no error in the buffer", desk.firstError(), 0);
        due("an empty buffer", desk.clearBuffer(), 0);
        due("no saved state", thrownBy(desk::undo), STATE);
        StuntDesk used = deskNearItsLimits();
        dueAlike("one more object", new StuntDesk(), new StuntDesk());
        due("the used one", used.count(0), 995);
    }

    // ---- Promise 2: size

    static void promise2Range() {
        sentence("Promise 2: size", "`person`: 0 to 7");
        range(StuntDesk::new, "person", 0, 7, INDEX, (d, person) -> d.size(person, 200));
        sentence("Promise 2: size", "Throws `IndexOutOfBoundsException` if there is no such person");
        range(CallsBoundaryTest::deskNearItsLimits, "person", 0, 7, INDEX, (d, person) -> d.size(person, 150));
        refuses(StuntDesk::new, "a wrong size too", INDEX, d -> d.size(8, 201));
        sentence("Promise 2: size", "`size`: 150 to 200");
        range(StuntDesk::new, "size", 150, 200, ARGUMENT, (d, size) -> d.size(7, size));
        sentence("Promise 2: size", "Throws `IllegalArgumentException` if size is out of range");
        range(CallsBoundaryTest::deskNearItsLimits, "size", 150, 200, ARGUMENT, (d, size) -> d.size(0, size));
    }

    static void promise2Returns() {
        sentence("Promise 2: size", "Returns the previous size.");
        StuntDesk desk = new StuntDesk();
        due("the first", desk.size(7, 150), 170);
        due("the smallest", desk.size(7, 200), 150);
        due("the largest", desk.size(7, 200), 200);
        due("the same", desk.size(7, 151), 200);
        due("somebody else's", desk.size(0, 199), 170);
    }

    static void promise2Undoable() {
        sentence("Promise 2: size", "Changes the size of someone. Undoable.");
        StuntDesk desk = new StuntDesk();
        desk.size(0, 150);
        desk.size(0, 150);
        due("saved, also without a change", desk.count(10), 2);
        desk.undo();
        due("still", desk.person(0, 0), 150);
        desk.undo();
        due("as at first", desk.person(0, 0), 170);
    }

    // ---- Promise 3: pass

    static void promise3Range() {
        sentence("Promise 3: pass", "`days`: 1 to 99");
        range(StuntDesk::new, "days", 1, 99, ARGUMENT, StuntDesk::pass);
        sentence("Promise 3: pass", "Throws `IllegalArgumentException` if days is out of range");
        range(() -> deskOnDay(900), "days", 1, 99, ARGUMENT, StuntDesk::pass);
        refuses(() -> deskOnDay(999), "no day", ARGUMENT, d -> d.pass(0));
        refuses(() -> deskOnDay(999), "too many days", ARGUMENT, d -> d.pass(100));
    }

    static void promise3Returns() {
        sentence("Promise 3: pass", "Returns the day then.");
        StuntDesk desk = new StuntDesk();
        due("one", desk.pass(1), 1);
        due("many", desk.pass(99), 100);
        due("to the last day", deskOnDay(900).pass(99), 999);
    }

    static void promise3State() {
        sentence("Promise 3: pass", "Throws `IllegalStateException` if it would be behind the day 999");
        for (int days : new int[] {1, 2, 50, 99}) {
            due("to the day 999", deskOnDay(999 - days).pass(days), 999);
            refuses(() -> deskOnDay(1000 - days), "to the day 1000 by " + days, STATE, d -> d.pass(days));
        }
        refuses(() -> deskOnDay(999), "to the day 1098", STATE, d -> d.pass(99));
    }

    static void promise3Undoable() {
        sentence("Promise 3: pass", "Lets days pass. Undoable.");
        StuntDesk desk = new StuntDesk();
        desk.rehearse(0, 0, 1);
        desk.hurt(1, 1, 1);
        desk.pass(99);
        due("no rehearsal counts", desk.rehearsed(0, 0, 1) + desk.person(0, 3), 0);
        due("nobody is hurt", desk.person(1, 1), 0);
        desk.undo();
        due("it counts again", desk.rehearsed(0, 0, 1) + desk.person(0, 3), 2);
        due("hurt again", desk.person(1, 1), 1);
        due("the day", desk.count(0), 0);
    }

    // ---- Promise 4: rehearse

    static void promise4Range() {
        Maker near = CallsBoundaryTest::deskNearItsLimits;
        sentence("Promise 4: rehearse", "`person`: 0 to 7");
        range(StuntDesk::new, "person", 0, 7, INDEX, (d, person) -> d.rehearse(person, 5, 5));
        sentence("Promise 4: rehearse", "`kind`: 0 to 5");
        range(StuntDesk::new, "kind", 0, 5, INDEX, (d, kind) -> d.rehearse(7, kind, 5));
        sentence("Promise 4: rehearse", "Throws `IndexOutOfBoundsException` if there is no such person or kind");
        range(near, "person", 0, 7, INDEX, (d, person) -> d.rehearse(person, 0, 1));
        range(near, "kind", 0, 5, INDEX, (d, kind) -> d.rehearse(0, kind, 1));
        refuses(near, "neither", INDEX, d -> d.rehearse(8, 6, 1));
        sentence("Promise 4: rehearse", "`risk`: 1 to 5");
        range(StuntDesk::new, "risk", 1, 5, ARGUMENT, (d, risk) -> d.rehearse(7, 5, risk));
        sentence("Promise 4: rehearse", "Throws `IllegalArgumentException` if risk is out of range");
        range(near, "risk", 1, 5, ARGUMENT, (d, risk) -> d.rehearse(6, 0, risk));
        refuses(near, "barred too", ARGUMENT, d -> d.rehearse(6, 2, 6));
    }

    static void promise4Returns() {
        sentence("Promise 4: rehearse", "Returns 1 if it counts, 0 if the person is hurt by it.");
        for (int person = 0; person < 8; person++) {
            StuntDesk desk = new StuntDesk();
            for (int time = 1; time <= 3; time++) {
                due("time " + time, desk.rehearse(person, 4, 1), 1);
            }
            due("time 4", desk.rehearse(person, 4, 1), 0);
            due("time 5", desk.rehearse(person, 0, 5), 0);
            due("somebody else", desk.rehearse((person + 1) % 8, 4, 1), 1);
            desk.pass(1);
            due("the next day", desk.rehearse(person, 4, 1), 1);
        }
    }

    static void promise4State() {
        sentence("Promise 4: rehearse", "Throws `IllegalStateException` if an injury in force bars the kind");
        for (int kind = 0; kind < 6; kind++) {
            for (int part : PARTS) {
                int asked = kind;
                Maker onTheLastDay = () -> {
                    StuntDesk desk = new StuntDesk();
                    desk.hurt(7, part, 60);
                    desk.pass(59);
                    return desk;
                };
                if ((BARRING_PARTS[kind] & part) != 0) {
                    refuses(onTheLastDay, "kind " + kind + " with the part " + part, STATE, d -> d.rehearse(7, asked, 1));
                } else {
                    due("kind " + kind + " with the part " + part, onTheLastDay.make().rehearse(7, asked, 1), 1);
                }
                StuntDesk behind = onTheLastDay.make();
                behind.pass(1);
                due("behind it", behind.rehearse(7, asked, 1), 1);
            }
        }
        Maker hurtByTheFourth = () -> {
            StuntDesk desk = new StuntDesk();
            play(desk, "0r01;0r01;0r01;0r01");
            return desk;
        };
        refuses(hurtByTheFourth, "hurt by a rehearsal", STATE, d -> d.rehearse(0, 0, 1));
        due("another kind hurts again", hurtByTheFourth.make().rehearse(0, 1, 1), 0);
    }

    static void promise4Undoable() {
        sentence("Promise 4: rehearse", "Lets someone rehearse. Undoable.");
        StuntDesk desk = new StuntDesk();
        rehearse(desk, 3, 0, 1, 5);
        desk.rehearse(0, 1, 5);
        due("hurt", desk.person(0, 2), 9);
        desk.undo();
        due("not hurt", desk.person(0, 2), NONE);
        desk.undo();
        due("the third is undone", desk.rehearsed(0, 1, 5), 2);
        due("a third one", desk.rehearse(0, 1, 5), 1);
        due("a fourth one", desk.rehearse(0, 1, 5), 0);
    }

    // ---- Promise 5: hurt

    static void promise5Range() {
        sentence("Promise 5: hurt", "`person`: 0 to 7");
        range(StuntDesk::new, "person", 0, 7, INDEX, (d, person) -> d.hurt(person, 32, 60));
        sentence("Promise 5: hurt", "Throws `IndexOutOfBoundsException` if there is no such person");
        range(CallsBoundaryTest::deskNearItsLimits, "person", 0, 7, INDEX, (d, person) -> d.hurt(person, 1, 1));
        refuses(StuntDesk::new, "no such part, wrong days", INDEX, d -> d.hurt(8, 64, 0));
        sentence("Promise 5: hurt", "`days`: 1 to 60");
        range(StuntDesk::new, "days", 1, 60, ARGUMENT, (d, days) -> d.hurt(7, 32, days));
        sentence("Promise 5: hurt", "`part`: 1, 2, 4, 8, 16 or 32");
        for (int part : PARTS) {
            StuntDesk desk = new StuntDesk();
            takes("the part " + part, () -> desk.hurt(0, part, 1));
            due("hurt", desk.person(0, 1), part);
        }
        sentence("Promise 5: hurt", "Throws `IllegalArgumentException` if part is none of these, or days is out of range");
        for (int part : NO_PARTS) {
            refuses(StuntDesk::new, "the part " + part, ARGUMENT, d -> d.hurt(0, part, 1));
            refuses(StuntDesk::new, "the part " + part + ", wrong days", ARGUMENT, d -> d.hurt(0, part, 61));
        }
        range(CallsBoundaryTest::deskNearItsLimits, "days", 1, 60, ARGUMENT, (d, days) -> d.hurt(0, 1, days));
    }

    static void promise5From() {
        sentence("Promise 5: hurt", "Notes an injury, from today on. Undoable.");
        StuntDesk desk = deskOnDay(999);
        desk.hurt(0, 1, 60);
        due("today", desk.person(0, 1), 1);
        due("to behind the day 999", desk.person(0, 2), 1058);
        desk.undo();
        due("undone", desk.person(0, 1), 0);
        due("and not counted", desk.count(7), 0);
        desk.hurt(0, 1, 1);
        due("one day is today alone", desk.person(0, 2), 999);
    }

    static void promise5Returns() {
        sentence("Promise 5: hurt", "Returns how many scenes that are not shot have a kind that is barred for this"
                + " person now.");
        due("without scenes", new StuntDesk().hurt(0, 1, 1), 0);
        StuntDesk full = new StuntDesk();
        for (int i = 0; i < 10; i++) {
            full.scene(2, 5, 7);
        }
        due("ten of ten", full.hurt(0, 4, 1), 10);
        StuntDesk desk = deskWithFights();
        desk.scene(4, 5, 3);
        due("a part that bars none", desk.hurt(0, 4, 1), 0);
        due("both fights", desk.hurt(0, 1, 2), 2);
        due("by an earlier injury too", desk.hurt(0, 32, 1), 3);
        due("somebody else", desk.hurt(2, 32, 1), 1);
        desk.shoot(0, 1);
        due("not the one that is shot", desk.hurt(3, 2, 1), 1);
        desk.pass(1);
        due("an earlier one on its last day", desk.hurt(0, 8, 1), 1);
        desk.pass(1);
        due("not behind it", desk.hurt(0, 8, 1), 0);
    }

    // ---- Promise 6: insure

    static void promise6Range() {
        sentence("Promise 6: insure", "`step`: 1 to 5");
        range(StuntDesk::new, "step", 1, 5, ARGUMENT, (d, step) -> d.insure(step, 60));
        sentence("Promise 6: insure", "`days`: 1 to 60");
        range(StuntDesk::new, "days", 1, 60, ARGUMENT, (d, days) -> d.insure(5, days));
        sentence("Promise 6: insure", "Throws `IllegalArgumentException` if step or days is out of range");
        range(StuntDesk::new, "step", 1, 5, ARGUMENT, (d, step) -> d.insure(step, 1));
        range(StuntDesk::new, "days", 1, 60, ARGUMENT, (d, days) -> d.insure(1, days));
        refuses(CallsBoundaryTest::deskNearItsLimits, "a step, without money", ARGUMENT, d -> d.insure(6, 60));
        refuses(CallsBoundaryTest::deskNearItsLimits, "days, without money", ARGUMENT, d -> d.insure(5, 61));
        refuses(StuntDesk::new, "both", ARGUMENT, d -> d.insure(0, 0));
    }

    static void promise6Returns() {
        sentence("Promise 6: insure", "Returns what is left in the purse.");
        StuntDesk desk = new StuntDesk();
        due("the cheapest", desk.insure(1, 1), 1999);
        due("the dearest", desk.insure(5, 60), 499);
        due("nearly all", desk.insure(3, 55), 4);
        due("all", desk.insure(2, 1), 0);
        due("the purse", desk.count(1), 0);
        StuntDesk dearer = new StuntDesk();
        dearer.hurt(0, 1, 1);
        due("a tenth dearer", dearer.insure(5, 60), 350);
        due("rounded down", dearer.insure(3, 1), 350 - 9);
    }

    static void promise6State() {
        sentence("Promise 6: insure", "Throws `IllegalStateException` if the purse has not enough");
        Maker with25 = CallsBoundaryTest::deskNearItsLimits;
        due("the purse", with25.make().count(1), 25);
        due("with an injury, all but 1", with25.make().insure(1, 22), 1);
        due("with an injury, all", with25.make().insure(1, 23), 0);
        refuses(with25, "one more than there is", STATE, d -> d.insure(1, 24));
        refuses(with25, "the dearest", STATE, d -> d.insure(5, 60));
        Maker manyInjuries = () -> {
            StuntDesk desk = new StuntDesk();
            for (int i = 0; i < 4; i++) {
                desk.hurt(0, 1, 1);
            }
            return desk;
        };
        refuses(manyInjuries, "2100 of 2000", STATE, d -> d.insure(5, 60));
        due("1995 of 2000", manyInjuries.make().insure(5, 57), 5);
    }

    static void promise6InPlaceOf() {
        sentence("Promise 6: insure", "Buys insurance, in place of what is in force, from today on. Undoable.");
        StuntDesk desk = new StuntDesk();
        desk.insure(5, 20);
        desk.pass(3);
        desk.insure(1, 2);
        due("a lower step, from today", desk.count(2) * 1000 + desk.count(3), 1004);
        desk.pass(1);
        due("on its last day", desk.count(2), 1);
        desk.pass(1);
        due("the former one does not come back", desk.count(2), 0);
        desk.insure(2, 60);
        due("behind a gap", desk.count(2) * 1000 + desk.count(3), 2000 + 5 + 59);
        desk.undo();
        due("undone", desk.count(2) * 1000 + desk.count(3), NONE);
        due("the purse too", desk.count(1), 2000 - 500 - 2);
        StuntDesk last = deskOnDay(999);
        last.insure(1, 60);
        due("to behind the day 999", last.count(3), 1058);
    }

    // ---- Promise 7: scene

    static void promise7Range() {
        sentence("Promise 7: scene", "`kind`: 0 to 5");
        range(StuntDesk::new, "kind", 0, 5, INDEX, (d, kind) -> d.scene(kind, 5, 7));
        sentence("Promise 7: scene", "`person`: 0 to 7: who is seen");
        range(StuntDesk::new, "person", 0, 7, INDEX, (d, person) -> d.scene(5, 5, person));
        sentence("Promise 7: scene", "Throws `IndexOutOfBoundsException` if there is no such kind or person");
        range(CallsBoundaryTest::deskWithFights, "kind", 0, 5, INDEX, (d, kind) -> d.scene(kind, 1, 0));
        range(CallsBoundaryTest::deskWithFights, "person", 0, 7, INDEX, (d, person) -> d.scene(0, 1, person));
        refuses(StuntDesk::new, "neither, and a wrong risk", INDEX, d -> d.scene(6, 0, 8));
        sentence("Promise 7: scene", "`risk`: 1 to 5");
        range(StuntDesk::new, "risk", 1, 5, ARGUMENT, (d, risk) -> d.scene(5, risk, 7));
        sentence("Promise 7: scene", "Throws `IllegalArgumentException` if risk is out of range");
        range(CallsBoundaryTest::deskWithFights, "risk", 1, 5, ARGUMENT, (d, risk) -> d.scene(0, risk, 0));
    }

    static void promise7Number() {
        sentence("Promise 7: scene", "Returns its number.");
        StuntDesk desk = new StuntDesk();
        for (int number = 0; number < 10; number++) {
            due("the number", desk.scene(5 - number % 6, 5 - number % 5, 7 - number % 8), number);
            due("who is seen", desk.sceneOf(number, 2), 7 - number % 8);
        }
        sentence("Promise 7: scene", "Throws `IllegalStateException` if there are 10 scenes");
        due("the eleventh", thrownBy(() -> desk.scene(5, 5, 7)), STATE);
        due("its risk is wrong too", thrownBy(() -> desk.scene(5, 6, 7)), ARGUMENT);
        due("its kind is wrong too", thrownBy(() -> desk.scene(6, 6, 7)), INDEX);
        due("still ten", desk.count(4), 10);
        sentence("Promise 7: scene", "Tells a scene. Undoable.");
        desk.undo();
        due("nine", desk.count(4), 9);
        due("the tenth is gone", thrownBy(() -> desk.sceneOf(9, 0)), INDEX);
        due("a tenth again", desk.scene(0, 1, 0), 9);
    }

    // ---- Promise 8: shoot

    static void promise8Range() {
        sentence("Promise 8: shoot", "`scene`: its number");
        range(CallsBoundaryTest::deskWithFights, "scene", 0, 1, INDEX, (d, scene) -> d.shoot(scene, 0));
        sentence("Promise 8: shoot", "`person`: 0 to 7: who does the stunt");
        range(CallsBoundaryTest::deskWithFights, "person", 0, 7, INDEX, (d, person) -> d.shoot(1, person));
        sentence("Promise 8: shoot", "Throws `IndexOutOfBoundsException` if there is no such scene or person");
        refuses(StuntDesk::new, "without scenes", INDEX, d -> d.shoot(0, 0));
        refuses(CallsBoundaryTest::deskWithFights, "neither", INDEX, d -> d.shoot(2, 8));
        StuntDesk undone = new StuntDesk();
        undone.scene(0, 1, 0);
        undone.undo();
        due("a scene that is undone", thrownBy(() -> undone.shoot(0, 0)), INDEX);
        due("a person for a shot scene", thrownBy(() -> {
            StuntDesk desk = deskWithFights();
            desk.shoot(0, 0);
            return desk.shoot(0, 8);
        }), INDEX);
    }

    static void promise8Returns() {
        sentence("Promise 8: shoot", "Returns 1 if this is a double, otherwise 0.");
        due("the one who is seen", deskWithFights().shoot(0, 0), 0);
        due("a double", deskWithFights().shoot(0, 1), 1);
        due("the last one", deskWithFights().shoot(1, 7), 1);
    }

    static void promise8State() {
        sentence("Promise 8: shoot", "Throws `IllegalStateException` if this one is refused");
        refuses(CallsBoundaryTest::deskWithFights, "not rehearsed", STATE, d -> d.shoot(0, 2));
        StuntDesk desk = deskWithFights();
        desk.shoot(0, 0);
        due("on the same day", thrownBy(() -> desk.shoot(1, 0)), STATE);
        desk.pass(1);
        due("on the next day", thrownBy(() -> desk.shoot(1, 0)), STATE);
        desk.pass(1);
        due("two days behind it", desk.shoot(1, 0), 0);
    }

    static void promise8Today() {
        sentence("Promise 8: shoot", "Shoots a scene today. Undoable.");
        StuntDesk desk = deskWithFights();
        desk.pass(19);
        desk.shoot(1, 7);
        due("the day", desk.sceneOf(1, 3), 19);
        due("who", desk.sceneOf(1, 4), 7);
        desk.undo();
        due("not shot", desk.sceneOf(1, 3), NONE);
        due("by nobody", desk.sceneOf(1, 4), NONE);
        due("no day off", desk.person(7, 4), NONE);
        due("shot again", desk.shoot(1, 7), 1);
        StuntDesk first = deskWithFights();
        first.shoot(0, 0);
        due("on the day 0", first.sceneOf(0, 3), 0);
    }

    // ---- Promise 9: append

    static void promise9Range() {
        sentence("Promise 9: append", "`code`: the character code, 33 to 126");
        range(StuntDesk::new, "code", 33, 126, ARGUMENT, StuntDesk::append);
        for (int code = 33; code <= 126; code++) {
            due("the code " + code, new StuntDesk().append(code), 1);
        }
        sentence("Promise 9: append", "Throws `IllegalArgumentException` if code is not 33 to 126");
        for (int code : new int[] {0, 9, 10, 13, 32, 127, 128, 160, 255, 304, 65536 + '0'}) {
            refuses(() -> type(new StuntDesk(), "+"), "the code " + code, ARGUMENT, d -> d.append(code));
        }
        sentence("Promise 9: append", "Throws `IllegalStateException` if the buffer has 60 characters");
        due("the sixtieth", type(new StuntDesk(), "+".repeat(59)).append('1'), 60);
        Maker full = () -> type(new StuntDesk(), "+1;".repeat(20));
        refuses(full, "one more", STATE, d -> d.append('+'));
        refuses(full, "the code is wrong too", ARGUMENT, d -> d.append(127));
    }

    static void promise9Returns() {
        sentence("Promise 9: append", "Returns the new length of the buffer.");
        StuntDesk desk = new StuntDesk();
        for (int length = 1; length <= 60; length++) {
            due("the length", desk.append(33 + length), length);
        }
        due("it was the buffer's end", desk.clearBuffer(), 60);
        due("from one again", desk.append('~'), 1);
    }

    // ---- Promise 10: clearBuffer

    static void promise10() {
        sentence("Promise 10: clearBuffer", "Returns the length that it had.");
        for (int length = 0; length <= 60; length++) {
            StuntDesk desk = type(new StuntDesk(), "!".repeat(length));
            due("the length", desk.clearBuffer(), length);
            due("empty now", desk.clearBuffer(), 0);
        }
        sentence("Promise 10: clearBuffer", "Clears the buffer.");
        for (String text : new String[] {"", "x", "+1", "+19", "9".repeat(60), "+1;".repeat(20)}) {
            StuntDesk desk = type(new StuntDesk(), text);
            desk.clearBuffer();
            due("no saved state", desk.count(10), 0);
            due("no error", desk.firstError(), 0);
            due("nothing of it is left", play(desk, "+2"), 1);
            due("only two days", desk.count(0), 2);
        }
        StuntDesk played = new StuntDesk();
        play(played, "+1;+99");
        due("nothing of a played one is left", play(played, "+1;+9"), 2);
        due("only ten days more", played.count(0), 110);
    }

    // ---- Promise 11: firstError

    static void promise11() {
        sentence("Promise 11: firstError", "Returns the index of the first character that is a syntax error;"
                + " the length of the buffer if there is none.");
        due("an empty one", new StuntDesk().firstError(), 0);
        due("the first place", type(new StuntDesk(), "r").firstError(), 0);
        due("one right character", type(new StuntDesk(), "+").firstError(), 1);
        due("the second place", type(new StuntDesk(), "+0").firstError(), 1);
        due("the first of several", type(new StuntDesk(), "+1x;+0;9").firstError(), 2);
        for (int place = 0; place < 60; place++) {
            String right = "+1;".repeat(20);
            String text = right.substring(0, place) + "~" + right.substring(place + 1);
            due("the place " + place, type(new StuntDesk(), text).firstError(), place);
            due("none so far", type(new StuntDesk(), right.substring(0, place)).firstError(), place);
        }
        due("a full one without an error", type(new StuntDesk(), "+1;".repeat(20)).firstError(), 60);
        StuntDesk desk = type(new StuntDesk(), "+1;x");
        due("asked once", desk.firstError(), 3);
        due("asked again", desk.firstError(), 3);
        due("the buffer is kept", desk.clearBuffer(), 4);
    }

    // ---- Promise 12: play

    static void promise12NoPlan() {
        sentence("Promise 12: play", "Throws `IllegalArgumentException` if the buffer is not a complete plan as a text");
        String[] texts = {"", "+", "0", "0r", "0r0", "!", "!0", "+1;", "0r01;", "!00;", "+1;0r0", "+1;!0", "+1;+", "x",
            "+1;x", "+100", "+1;".repeat(19) + "!0", "+1;".repeat(20), "+1;".repeat(19) + "!08", "x".repeat(60)};
        for (String text : texts) {
            refuses(() -> type(new StuntDesk(), text), "'" + text + "'", ARGUMENT, StuntDesk::play);
        }
        takes("a complete one of 60", type(new StuntDesk(), "+1;".repeat(19) + "!07")::play);
        takes("the shortest", type(new StuntDesk(), "+1")::play);
    }

    static void promise12Returns() {
        sentence("Promise 12: play", "Returns how many parts are done.");
        due("one", play(new StuntDesk(), "+1"), 1);
        due("a full buffer", play(new StuntDesk(), "+1;".repeat(19) + "+99"), 20);
        due("none", play(new StuntDesk(), "!00"), 0);
        due("a rehearsal that hurts is done", play(new StuntDesk(), "0r01;0r01;0r01;0r01;+1"), 5);
        due("but not one more", play(new StuntDesk(), "0r01;0r01;0r01;0r01;0r01;+1"), 4);
    }

    static void promise12Stops() {
        sentence("Promise 12: play", "Does what the buffer tells, part by part, up to the first part that is not possible"
                + " (for which the method would throw an exception), and clears the buffer.");
        String[] impossible = {"!21", "!91", "!02", "6r01", "!00;!10"};
        for (String part : impossible) {
            StuntDesk desk = deskWithFights();
            desk.hurt(6, 1, 60);
            int ahead = part.indexOf(';') > 0 ? 1 : 0;
            due("ahead of " + part, play(desk, "+1;" + part + ";+2;3r41"), 1 + ahead);
            due("the part ahead is done", desk.count(0), 1);
            due("none behind it", desk.rehearsed(3, 4, 1), 0);
            due("the buffer is cleared", desk.clearBuffer(), 0);
        }
        StuntDesk last = deskOnDay(950);
        due("to the day 999", play(last, "+49"), 1);
        last.undo();
        due("behind it", play(last, "+50;0r01"), 0);
        due("the day is the same", last.count(0), 950);
        due("no rehearsal", last.count(8), 0);
        due("a later part that would be possible", play(last, "+48;+2;+1"), 1);
        due("is not done", last.count(0), 998);
        StuntDesk day0 = deskWithFights();
        due("both shots", play(day0, "!00;+2;!10"), 3);
        due("their days", day0.sceneOf(0, 3) * 10 + day0.sceneOf(1, 3), 2);
        due("the buffer is cleared", day0.firstError(), 0);
    }

    static void promise12Undoable() {
        sentence("Promise 12: play", "Undoable, as one call, also if nothing is done.");
        StuntDesk desk = deskWithFights();
        int saved = desk.count(10);
        due("nothing is done", play(desk, "!97"), 0);
        due("saved", desk.count(10), saved + 1);
        due("all is done", play(desk, "+1;+1;3r41;!07;+3"), 5);
        due("saved as one", desk.count(10), saved + 2);
        due("left", desk.undo(), saved + 1);
        due("all is undone", desk.count(0) + desk.count(5), 0);
        due("rehearsals so far", desk.count(8), 3);
        due("the buffer stays empty", desk.clearBuffer(), 0);
        due("left", desk.undo(), saved);
        dueAlike("undone", desk, deskWithFights());
    }

    // ---- Promise 13: undo

    private static StuntDesk deskWithPasses(int calls) {
        StuntDesk desk = new StuntDesk();
        for (int i = 0; i < calls; i++) {
            desk.pass(1);
        }
        return desk;
    }

    static void promise13Returns() {
        sentence("Promise 13: undo", "Returns how many saved states are left.");
        for (int calls = 1; calls <= 13; calls++) {
            StuntDesk desk = deskWithPasses(calls);
            for (int left = Math.min(calls, 6) - 1; left >= 0; left--) {
                due("left", desk.undo(), left);
                due("counted", desk.count(10), left);
            }
        }
    }

    static void promise13State() {
        sentence("Promise 13: undo", "Throws `IllegalStateException` if there is none");
        for (int calls = 0; calls <= 13; calls++) {
            StuntDesk desk = deskWithPasses(calls);
            for (int i = 0; i < Math.min(calls, 6); i++) {
                desk.undo();
            }
            due("none", thrownBy(desk::undo), STATE);
            due("none again", thrownBy(desk::undo), STATE);
            due("the day stays", desk.count(0), Math.max(0, calls - 6));
        }
        due("with a text alone", thrownBy(() -> type(new StuntDesk(), "+1").undo()), STATE);
        due("behind a call that throws", thrownBy(() -> {
            StuntDesk desk = new StuntDesk();
            thrownBy(() -> desk.pass(0));
            return desk.undo();
        }), STATE);
    }

    static void promise13Restores() {
        sentence("Promise 13: undo", "Restores the latest saved state, and drops it.");
        StuntDesk desk = new StuntDesk();
        desk.pass(1);
        desk.pass(2);
        desk.pass(3);
        desk.undo();
        due("the latest", desk.count(0), 3);
        desk.undo();
        due("the one ahead of it", desk.count(0), 1);
        desk.pass(5);
        desk.undo();
        due("not a dropped one", desk.count(0), 1);
        desk.undo();
        due("the first", desk.count(0), 0);
        StuntDesk full = new StuntDesk();
        for (int i = 0; i < 10; i++) {
            full.scene(0, 1, 0);
        }
        for (int i = 0; i < 6; i++) {
            full.undo();
        }
        due("four of ten are left", full.count(4), 4);
        due("the fifth is told anew", full.scene(5, 5, 5) * 10 + full.sceneOf(4, 0), 45);
    }
}
