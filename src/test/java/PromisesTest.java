import java.lang.reflect.Constructor;
import java.lang.reflect.Field;
import java.lang.reflect.Method;
import java.lang.reflect.Modifier;
import java.util.ArrayList;
import java.util.Arrays;
import java.util.List;
import java.util.TreeSet;

/** At least one test for each promise of DOC.md: ordinary inputs, edges, wrong inputs. */
public final class PromisesTest extends Checks {
    private static final int[] WRONG_PEOPLE = {-1, 8, Integer.MIN_VALUE, Integer.MAX_VALUE};
    private static final int[] WRONG_KINDS = {-1, 6, Integer.MIN_VALUE, Integer.MAX_VALUE};
    private static final int[] WRONG_RISKS = {0, 6, -1, Integer.MIN_VALUE, Integer.MAX_VALUE};
    private static final int[] WRONG_PARTS = {0, -1, 3, 5, 33, 63, 64, Integer.MIN_VALUE, Integer.MAX_VALUE};
    private static final int[] WRONG_DAYS = {0, -1, 61, Integer.MIN_VALUE, Integer.MAX_VALUE};

    public static void main(String[] args) {
        face();
        promise1NewObject();
        promise2Size();
        promise3Pass();
        promise4Rehearse();
        promise4Tired();
        promise4KeptRehearsals();
        promise5Hurt();
        promise5KeptInjuries();
        promise6Insure();
        promise7Scene();
        promise8Shoot();
        promise9Append();
        promise10ClearBuffer();
        promise11FirstError();
        promise12Play();
        promise12PlayStops();
        promise13Undo();
        promise13UndoRestoresAll();
        promise14Person();
        promise15Rehearsed();
        promise16Kind();
        promise17SceneOf();
        promise18Count();
        promise19Refusal();
        promise20Soonest();
        promise21Lacking();
        promise22Best();
        promise23Cost();
        promise24IfHurt();
        promise25ShotShare();
        promise26Digest();
        System.out.println(wrong == 0 ? "all promises are kept" : wrong + " answers are wrong");
        if (wrong != 0) {
            System.exit(1);
        }
    }

    // ---- helpers

    /** The call throws just this exception, and changes nothing. */
    private static void refuses(StuntDesk desk, String what, String exception, Call call) {
        long before = desk.digest();
        due(what, thrownBy(call), exception);
        due(what + " changes nothing", desk.digest(), before);
    }

    private static int errorOf(String text) {
        StuntDesk desk = new StuntDesk();
        type(desk, text);
        return desk.firstError();
    }

    /** A desk with a fight of risk 1 for the person 0, insured for the day 0 to 59. */
    private static StuntDesk deskWithFight() {
        StuntDesk desk = new StuntDesk();
        desk.scene(0, 1, 0);
        desk.insure(1, 60);
        return desk;
    }

    // ---- the face

    private static void face() {
        TreeSet<String> names = new TreeSet<>();
        for (Method method : StuntDesk.class.getDeclaredMethods()) {
            if (!Modifier.isPrivate(method.getModifiers()) && !method.isSynthetic()) {
                names.add(method.getName() + Arrays.toString(method.getParameterTypes()) + method.getReturnType());
            }
        }
        due("methods of the face", names.toString(), "[append[int]int, best[int]int, clearBuffer[]int, cost[int, int]int,"
                + " count[int]int, digest[]long, firstError[]int, hurt[int, int, int]int, ifHurt[int, int]int,"
                + " insure[int, int]int, kind[int, int, int]int, lacking[int, int]int, pass[int]int, person[int, int]int,"
                + " play[]int, refusal[int, int]int, rehearse[int, int, int]int, rehearsed[int, int, int]int,"
                + " sceneOf[int, int]int, scene[int, int, int]int, shoot[int, int]int, shotShare[]double,"
                + " size[int, int]int, soonest[int, int]int, undo[]int]");
        TreeSet<String> fields = new TreeSet<>();
        for (Field field : StuntDesk.class.getDeclaredFields()) {
            if (!Modifier.isPrivate(field.getModifiers()) && !field.isSynthetic()) {
                fields.add(field.getName());
            }
        }
        due("constants of the face", fields.toString(), "[NONE]");
        int open = 0;
        for (Constructor<?> constructor : StuntDesk.class.getDeclaredConstructors()) {
            open += Modifier.isPublic(constructor.getModifiers()) ? 1 : 0;
        }
        due("public constructors", open, 1);
        due("NONE", StuntDesk.NONE, -1);
        due("the class is final", Modifier.isFinal(StuntDesk.class.getModifiers()) ? 1 : 0, 1);
    }

    // ---- promise by promise

    private static void promise1NewObject() {
        StuntDesk desk = new StuntDesk();
        int[] counts = {0, 2000, 0, NONE, 0, 0, 0, 0, 0, 0, 0};
        for (int what = 0; what < counts.length; what++) {
            due("1: count " + what, desk.count(what), counts[what]);
        }
        int[] numbers = {170, 0, NONE, 0, NONE, 0, 0};
        for (int person = 0; person < 8; person++) {
            for (int what = 0; what < numbers.length; what++) {
                due("1: person " + person + " " + what, desk.person(person, what), numbers[what]);
            }
            for (int kind = 0; kind < 6; kind++) {
                due("1: rehearsed", desk.rehearsed(person, kind, 1), 0);
            }
        }
        due("1: the buffer", desk.clearBuffer(), 0);
        due("1: no scene", thrownBy(() -> desk.sceneOf(0, 0)), INDEX);
        due("1: nothing to undo", thrownBy(desk::undo), STATE);
        StuntDesk other = new StuntDesk();
        other.size(0, 150);
        due("1: objects share nothing", desk.person(0, 0), 170);
    }

    private static void promise2Size() {
        StuntDesk desk = new StuntDesk();
        due("2: the previous size", desk.size(3, 150), 170);
        due("2: the lowest", desk.size(3, 200), 150);
        due("2: the highest", desk.size(3, 200), 200);
        due("2: the size now", desk.person(3, 0), 200);
        due("2: of others", desk.person(2, 0), 170);
        due("2: undoable, also without a change", desk.count(10), 3);
        desk.undo();
        desk.undo();
        due("2: undone", desk.person(3, 0), 150);
        for (int person : WRONG_PEOPLE) {
            refuses(desk, "2: person " + person, INDEX, () -> desk.size(person, 170));
            refuses(desk, "2: the person is named first", INDEX, () -> desk.size(person, 149));
        }
        for (int size : new int[] {149, 201, 0, -170, Integer.MIN_VALUE, Integer.MAX_VALUE}) {
            refuses(desk, "2: size " + size, ARGUMENT, () -> desk.size(0, size));
        }
    }

    private static void promise3Pass() {
        StuntDesk desk = new StuntDesk();
        due("3: a day", desk.pass(1), 1);
        due("3: many", desk.pass(99), 100);
        due("3: undoable", desk.undo(), 1);
        due("3: undone", desk.count(0), 1);
        for (int days : new int[] {0, 100, -1, Integer.MIN_VALUE, Integer.MAX_VALUE}) {
            refuses(desk, "3: days " + days, ARGUMENT, () -> desk.pass(days));
        }
        pass(desk, 900);
        refuses(desk, "3: behind the day 999", STATE, () -> desk.pass(99));
        due("3: to the day 999", desk.pass(98), 999);
        refuses(desk, "3: the day 1000", STATE, () -> desk.pass(1));
        refuses(desk, "3: the days are named first", ARGUMENT, () -> desk.pass(100));
    }

    private static void promise4Rehearse() {
        StuntDesk desk = new StuntDesk();
        due("4: it counts", desk.rehearse(2, 0, 3), 1);
        due("4: rehearsed", desk.rehearsed(2, 0, 4), 1);
        due("4: a risk of more than one less", desk.rehearsed(2, 0, 5), 0);
        due("4: undoable", desk.undo(), 0);
        due("4: undone", desk.rehearsed(2, 0, 4), 0);
        due("4: not so far either", desk.count(8), 0);
        for (int person : WRONG_PEOPLE) {
            refuses(desk, "4: person " + person, INDEX, () -> desk.rehearse(person, 0, 1));
            refuses(desk, "4: the person is named first", INDEX, () -> desk.rehearse(person, 0, 0));
        }
        for (int kind : WRONG_KINDS) {
            refuses(desk, "4: kind " + kind, INDEX, () -> desk.rehearse(0, kind, 1));
            refuses(desk, "4: the kind is named first", INDEX, () -> desk.rehearse(0, kind, 6));
        }
        for (int risk : WRONG_RISKS) {
            refuses(desk, "4: risk " + risk, ARGUMENT, () -> desk.rehearse(0, 0, risk));
        }
        desk.hurt(5, 2, 2);
        for (int kind : new int[] {0, 2, 5}) {
            refuses(desk, "4: a hurt arm bars " + kind, STATE, () -> desk.rehearse(5, kind, 1));
            refuses(desk, "4: the risk is named first", ARGUMENT, () -> desk.rehearse(5, kind, 0));
        }
        due("4: others may", desk.rehearse(4, 0, 1), 1);
        due("4: other kinds", desk.rehearse(5, 1, 1), 1);
        desk.pass(1);
        refuses(desk, "4: still in force", STATE, () -> desk.rehearse(5, 0, 1));
        desk.pass(1);
        due("4: not in force any more", desk.rehearse(5, 0, 1), 1);
    }

    private static void promise4Tired() {
        int[] parts = {1, 4, 16, 16, 4, 1};
        for (int kind = 0; kind < 6; kind++) {
            for (int risk = 1; risk <= 5; risk++) {
                StuntDesk desk = new StuntDesk();
                desk.pass(7);
                desk.rehearse(1, 0, 1);
                desk.rehearse(1, 4, 1);
                desk.rehearse(1, 5, 1);
                desk.rehearse(0, 5, 1);
                due("4: hurt by the fourth", desk.rehearse(1, kind, risk), 0);
                due("4: the part", desk.person(1, 1), parts[kind]);
                due("4: the last day", desk.person(1, 2), 7 + 2 * risk - 1);
                due("4: it does not count", desk.rehearsed(1, 3, 1) + desk.rehearsed(1, 2, 1) + desk.rehearsed(1, 1, 1), 0);
                due("4: but it is one today", desk.person(1, 3), 4);
                due("4: and so far", desk.count(8), 5);
                due("4: an injury so far", desk.count(7), 1);
                due("4: nobody else is hurt", desk.person(0, 1), 0);
                due("4: undoable", desk.undo(), 5);
                due("4: undone", desk.person(1, 1) + desk.count(7), 0);
                due("4: undone today", desk.person(1, 3), 3);
            }
        }
        StuntDesk desk = new StuntDesk();
        rehearse(desk, 3, 6, 4, 5);
        due("4: the fourth", desk.rehearse(6, 4, 1), 0);
        due("4: the fifth", desk.rehearse(6, 4, 3), 0);
        due("4: so far both", desk.count(7), 2);
        due("4: today both", desk.person(6, 3), 5);
        due("4: the later last day", desk.person(6, 2), 5);
        desk.pass(1);
        due("4: a new day", desk.person(6, 3), 0);
        due("4: a first one again", desk.rehearse(6, 4, 1), 1);
    }

    private static void promise4KeptRehearsals() {
        StuntDesk desk = new StuntDesk();
        desk.rehearse(0, 4, 1);
        desk.rehearse(0, 4, 2);
        desk.rehearse(0, 4, 3);
        desk.rehearse(0, 4, 3);
        for (int i = 0; i < 37; i++) {
            if (i % 3 == 0) {
                desk.pass(1);
            }
            due("4: counts", desk.rehearse(1, 5, 1), 1);
        }
        due("4: forty are kept, without the one that hurt", desk.rehearsed(0, 4, 1), 3);
        desk.rehearse(2, 0, 1);
        due("4: the forty-first drops the oldest", desk.rehearsed(0, 4, 1), 2);
        due("4: the oldest is the first", desk.rehearsed(0, 4, 3), 2);
        desk.rehearse(2, 0, 1);
        due("4: and the next", desk.rehearsed(0, 4, 3), 1);
        due("4: so far all", desk.count(8), 43);
        desk.undo();
        due("4: undone", desk.rehearsed(0, 4, 3), 2);
    }

    private static void promise5Hurt() {
        StuntDesk desk = new StuntDesk();
        due("5: without scenes", desk.hurt(0, 1, 1), 0);
        desk.undo();
        for (int kind = 0; kind < 6; kind++) {
            desk.scene(kind, 1, 7);
        }
        int[] barred = {3, 3, 2, 2, 3, 4};
        for (int i = 0; i < PARTS.length; i++) {
            due("5: scenes barred by " + PARTS[i], desk.hurt(3, PARTS[i], 60), barred[i]);
            due("5: undoable", desk.undo(), 5);
        }
        desk.hurt(3, 16, 2);
        due("5: together", desk.hurt(3, 32, 1), 5);
        due("5: not of others", desk.hurt(4, 4, 1), 2);
        desk.pass(1);
        due("5: only what is in force", desk.hurt(3, 1, 1), 5);
        desk.pass(1);
        due("5: over", desk.hurt(3, 1, 1), 3);
        due("5: the last day", desk.person(3, 2), 2);
        for (int person : WRONG_PEOPLE) {
            refuses(desk, "5: person " + person, INDEX, () -> desk.hurt(person, 1, 1));
            refuses(desk, "5: the person is named first", INDEX, () -> desk.hurt(person, 3, 0));
        }
        for (int part : WRONG_PARTS) {
            refuses(desk, "5: part " + part, ARGUMENT, () -> desk.hurt(0, part, 1));
        }
        for (int days : WRONG_DAYS) {
            refuses(desk, "5: days " + days, ARGUMENT, () -> desk.hurt(0, 1, days));
        }
        StuntDesk shot = deskWithFight();
        shot.scene(0, 1, 0);
        shot.rehearse(0, 0, 1);
        shot.shoot(0, 0);
        due("5: not the shot ones", shot.hurt(0, 1, 1), 1);
    }

    private static void promise5KeptInjuries() {
        StuntDesk desk = new StuntDesk();
        desk.hurt(0, 1, 60);
        desk.hurt(0, 4, 60);
        for (int i = 0; i < 10; i++) {
            desk.hurt(1, 2, 1);
        }
        due("5: twelve are kept", desk.person(0, 1), 5);
        desk.hurt(1, 2, 1);
        due("5: the thirteenth drops the oldest", desk.person(0, 1), 4);
        due("5: so far all", desk.count(7), 13);
        desk.undo();
        due("5: undone", desk.person(0, 1), 5);
        rehearse(desk, 3, 2, 3, 1);
        desk.rehearse(2, 3, 1);
        due("5: the tired ones drop too", desk.person(0, 1), 4);
    }

    private static void promise6Insure() {
        StuntDesk desk = new StuntDesk();
        due("6: what is left", desk.insure(2, 10), 1960);
        due("6: the step", desk.count(2), 2);
        due("6: the last day", desk.count(3), 9);
        due("6: undoable", desk.undo(), 0);
        due("6: undone", desk.count(1), 2000);
        due("6: undone step", desk.count(2), 0);
        due("6: undone days", desk.count(3), NONE);
        desk.pass(5);
        due("6: the dearest", desk.insure(5, 60), 500);
        due("6: from today on", desk.count(3), 64);
        due("6: in place of what is in force", desk.insure(1, 1), 499);
        due("6: the new step", desk.count(2), 1);
        due("6: the new days", desk.count(3), 5);
        desk.pass(1);
        due("6: not in force any more", desk.count(2), 0);
        due("6: no last day then", desk.count(3), NONE);
        refuses(desk, "6: one too many", STATE, () -> desk.insure(5, 20));
        due("6: just enough", desk.insure(3, 55), 4);
        due("6: all of it", desk.insure(2, 1), 0);
        refuses(desk, "6: an empty purse", STATE, () -> desk.insure(1, 1));
        for (int step : new int[] {0, 6, -1, Integer.MIN_VALUE, Integer.MAX_VALUE}) {
            refuses(desk, "6: step " + step, ARGUMENT, () -> desk.insure(step, 60));
        }
        for (int days : WRONG_DAYS) {
            refuses(desk, "6: days " + days, ARGUMENT, () -> desk.insure(5, days));
        }
        StuntDesk dearer = new StuntDesk();
        dearer.hurt(0, 1, 1);
        due("6: dearer by an injury", dearer.insure(3, 10), 2000 - 99);
        dearer.pass(98);
        pass(dearer, 900);
        dearer.insure(1, 60);
        due("6: behind the day 999", dearer.count(3), 998 + 59);
    }

    private static void promise7Scene() {
        StuntDesk desk = new StuntDesk();
        for (int i = 0; i < 10; i++) {
            due("7: the number", desk.scene(i % 6, i % 5 + 1, i % 8), i);
            due("7: scenes", desk.count(4), i + 1);
        }
        for (int i = 0; i < 10; i++) {
            due("7: its kind", desk.sceneOf(i, 0), i % 6);
            due("7: its risk", desk.sceneOf(i, 1), i % 5 + 1);
            due("7: who is seen", desk.sceneOf(i, 2), i % 8);
        }
        refuses(desk, "7: ten scenes", STATE, () -> desk.scene(0, 1, 0));
        for (int wrongNumber : WRONG_RISKS) {
            refuses(desk, "7: the risk is named first", ARGUMENT, () -> desk.scene(0, wrongNumber, 0));
        }
        due("7: undoable", desk.undo(), 5);
        due("7: undone", desk.count(4), 9);
        for (int kind : WRONG_KINDS) {
            refuses(desk, "7: kind " + kind, INDEX, () -> desk.scene(kind, 1, 0));
            refuses(desk, "7: the kind is named first", INDEX, () -> desk.scene(kind, 0, 0));
        }
        for (int person : WRONG_PEOPLE) {
            refuses(desk, "7: person " + person, INDEX, () -> desk.scene(0, 1, person));
            refuses(desk, "7: the person is named first", INDEX, () -> desk.scene(0, 9, person));
        }
        for (int risk : WRONG_RISKS) {
            refuses(desk, "7: risk " + risk, ARGUMENT, () -> desk.scene(0, risk, 0));
        }
        due("7: the number is used again", desk.scene(5, 5, 5), 9);
    }

    private static void promise8Shoot() {
        StuntDesk desk = deskWithFight();
        desk.scene(0, 1, 0);
        refuses(desk, "8: not rehearsed", STATE, () -> desk.shoot(0, 0));
        rehearse(desk, 1, 0, 0, 1);
        rehearse(desk, 1, 4, 0, 1);
        due("8: the one who is seen", desk.shoot(0, 0), 0);
        due("8: the day", desk.sceneOf(0, 3), 0);
        due("8: who did it", desk.sceneOf(0, 4), 0);
        due("8: undoable", desk.undo(), 5);
        due("8: undone", desk.sceneOf(0, 3), NONE);
        due("8: undone too", desk.sceneOf(0, 4), NONE);
        desk.pass(3);
        due("8: a double", desk.shoot(1, 4), 1);
        due("8: the day of a double", desk.sceneOf(1, 3), 3);
        due("8: the double", desk.sceneOf(1, 4), 4);
        due("8: shot by doubles", desk.count(6), 1);
        refuses(desk, "8: only once", STATE, () -> desk.shoot(1, 0));
        for (int scene : new int[] {-1, 2, 10, Integer.MIN_VALUE, Integer.MAX_VALUE}) {
            refuses(desk, "8: scene " + scene, INDEX, () -> desk.shoot(scene, 0));
        }
        for (int person : WRONG_PEOPLE) {
            refuses(desk, "8: person " + person, INDEX, () -> desk.shoot(0, person));
            refuses(desk, "8: the person is named first", INDEX, () -> desk.shoot(1, person));
        }
    }

    private static void promise9Append() {
        StuntDesk desk = new StuntDesk();
        due("9: the lowest", desk.append(33), 1);
        due("9: the highest", desk.append(126), 2);
        for (int code : new int[] {32, 127, 0, -1, 300, Integer.MIN_VALUE, Integer.MAX_VALUE}) {
            refuses(desk, "9: code " + code, ARGUMENT, () -> desk.append(code));
        }
        for (int i = 3; i <= 60; i++) {
            due("9: the new length", desk.append('0'), i);
        }
        refuses(desk, "9: sixty characters", STATE, () -> desk.append('0'));
        refuses(desk, "9: the code is named first", ARGUMENT, () -> desk.append(32));
        due("9: not undoable", desk.count(10), 0);
    }

    private static void promise10ClearBuffer() {
        StuntDesk desk = new StuntDesk();
        due("10: empty", desk.clearBuffer(), 0);
        type(desk, "+1;+");
        due("10: the length", desk.clearBuffer(), 4);
        due("10: empty now", desk.clearBuffer(), 0);
        due("10: not undoable", desk.count(10), 0);
        type(desk, "+2");
        due("10: nothing is left over", desk.play(), 1);
        due("10: only the new text", desk.count(0), 2);
        for (int i = 0; i < 60; i++) {
            desk.append('!');
        }
        due("10: a full one", desk.clearBuffer(), 60);
    }

    private static void promise11FirstError() {
        String[] right = {"", "0", "0r", "0r0", "0r01", "7r55", "0r01;", "0r01;7", "+", "+1", "+9", "+10", "+99", "+1;",
            "+99;", "+1;!", "!", "!0", "!9", "!07", "!97", "!00;", "!00;!", "!00;+5;3r25"};
        for (String text : right) {
            due("11: no error in '" + text + "'", errorOf(text), text.length());
        }
        String[] wrongAtTheEnd = {"8", "r", ";", "-", "/", ":", "~", "0R", "0s", "00", "0;", "0r6", "0r/", "0rr", "0r00",
            "0r06", "0r0;", "0r010", "0r01+", "0r01;;", "0r01;8", "+0", "+:", "+;", "++", "+1+", "+1r", "+1/", "+1:",
            "+100", "+10r", "!:", "!/", "!!", "!;", "!08", "!0/", "!0;", "!000", "!00!", "+1;;", "+12;;"};
        for (String text : wrongAtTheEnd) {
            due("11: an error in '" + text + "'", errorOf(text), text.length() - 1);
        }
        due("11: the first one", errorOf("+1;+0x"), 4);
        due("11: ahead of what would be right", errorOf("x+1"), 0);
        StuntDesk desk = new StuntDesk();
        for (int i = 0; i < 20; i++) {
            type(desk, "+1;");
        }
        due("11: plans may be longer than the buffer", desk.firstError(), 60);
        due("11: nothing is changed", desk.clearBuffer(), 60);
    }

    private static void promise12Play() {
        StuntDesk desk = deskWithFight();
        type(desk, "1r03;+2;!01;+12");
        due("12: all parts", desk.play(), 4);
        due("12: the day", desk.count(0), 14);
        due("12: who did it", desk.sceneOf(0, 4), 1);
        due("12: the day of the shot", desk.sceneOf(0, 3), 2);
        due("12: the rehearsal", desk.rehearsed(1, 0, 4), 1);
        due("12: the buffer is cleared", desk.clearBuffer(), 0);
        due("12: one state for all", desk.count(10), 3);
        due("12: undone as one call", desk.undo(), 2);
        due("12: the day again", desk.count(0), 0);
        due("12: not shot", desk.sceneOf(0, 3), NONE);
        due("12: not rehearsed", desk.count(8), 0);
        type(desk, "2r55;2r55;2r55;2r55;+9");
        due("12: a rehearsal that hurts is done", desk.play(), 5);
        due("12: hurt", desk.person(2, 1), 1);
        due("12: nine days", desk.count(0), 9);
        for (String text : new String[] {"", "+", "0r0", "!0", "+1;", "+1;;", "8", "+1;!", "x;+1", "+1;x"}) {
            StuntDesk other = new StuntDesk();
            type(other, text);
            refuses(other, "12: '" + text + "' is not complete", ARGUMENT, other::play);
            due("12: the buffer stays", other.clearBuffer(), text.length());
        }
        StuntDesk full = new StuntDesk();
        for (int i = 0; i < 19; i++) {
            type(full, "+9;");
        }
        type(full, "+99");
        due("12: a full buffer", full.play(), 20);
        due("12: its days", full.count(0), 19 * 9 + 99);
    }

    private static void promise12PlayStops() {
        StuntDesk desk = deskWithFight();
        type(desk, "!00;+1");
        due("12: the first part is not possible", desk.play(), 0);
        due("12: nothing behind it is done", desk.count(0), 0);
        due("12: the buffer is cleared all the same", desk.clearBuffer(), 0);
        due("12: undoable, also if nothing is done", desk.count(10), 3);
        type(desk, "+1;!10;+1");
        due("12: no such scene", desk.play(), 1);
        due("12: a day", desk.count(0), 1);
        desk.hurt(0, 1, 5);
        type(desk, "1r01;0r01;+1");
        due("12: barred", desk.play(), 1);
        due("12: no day more", desk.count(0), 1);
        pass(desk, 997);
        type(desk, "+1;+1;1r01");
        due("12: behind the day 999", desk.play(), 1);
        due("12: the last day", desk.count(0), 999);
    }

    private static void promise13Undo() {
        StuntDesk desk = new StuntDesk();
        refuses(desk, "13: none", STATE, desk::undo);
        for (int i = 1; i <= 8; i++) {
            desk.pass(1);
            due("13: at most six", desk.count(10), Math.min(i, 6));
        }
        for (int left = 5; left >= 0; left--) {
            due("13: how many are left", desk.undo(), left);
            due("13: the day", desk.count(0), left + 2);
        }
        refuses(desk, "13: the oldest ones are dropped", STATE, desk::undo);
        desk.pass(5);
        due("13: and again", desk.undo(), 0);
        due("13: the day again", desk.count(0), 2);
        type(desk, "+3");
        desk.pass(1);
        desk.undo();
        due("13: not the buffer", desk.clearBuffer(), 2);
        type(desk, "+3");
        desk.play();
        desk.undo();
        due("13: nor what play cleared", desk.clearBuffer(), 0);
        due("13: a call that throws saves nothing", thrownBy(() -> desk.pass(0)), ARGUMENT);
        due("13: none is saved", desk.count(10), 0);
    }

    private static void promise13UndoRestoresAll() {
        StuntDesk desk = deskWithFight();
        desk.scene(0, 1, 0);
        desk.rehearse(0, 0, 1);
        desk.rehearse(1, 0, 1);
        Call[] calls = {() -> desk.size(1, 160), () -> desk.pass(2), () -> desk.rehearse(1, 0, 1),
            () -> desk.hurt(1, 1, 9), () -> desk.insure(2, 3), () -> desk.scene(1, 1, 2), () -> desk.shoot(0, 0)};
        for (int i = 0; i < 7; i++) {
            desk.size(7, 171);
        }
        for (Call call : calls) {
            // With six states saved each call drops one, so that the counts are equal around an undo but for one.
            desk.undo();
            long before = desk.digest();
            call.answer();
            desk.undo();
            due("13: all is as before", desk.digest(), before);
            desk.size(7, 171);
        }
    }

    private static void promise14Person() {
        StuntDesk desk = deskWithFight();
        desk.scene(0, 1, 0);
        desk.size(2, 165);
        due("14: the size", desk.person(2, 0), 165);
        desk.pass(1);
        desk.hurt(2, 8, 3);
        desk.hurt(2, 32, 5);
        desk.hurt(2, 8, 1);
        due("14: the mask", desk.person(2, 1), 40);
        due("14: the last day", desk.person(2, 2), 5);
        due("14: kinds barred by leg and head", desk.person(2, 6), 2 + 4 + 8 + 16 + 32);
        desk.pass(3);
        due("14: the leg is healed", desk.person(2, 1), 32);
        due("14: kinds barred by the head", desk.person(2, 6), 4 + 8 + 16 + 32);
        desk.pass(1);
        due("14: on the last day", desk.person(2, 2), 5);
        desk.pass(1);
        due("14: healed", desk.person(2, 1), 0);
        due("14: no last day", desk.person(2, 2), NONE);
        due("14: no kind", desk.person(2, 6), 0);
        int[] masks = {1 + 4 + 32, 1 + 4 + 32, 2 + 4, 2 + 4, 2 + 4 + 8, 4 + 8 + 16 + 32};
        for (int i = 0; i < PARTS.length; i++) {
            desk.hurt(3, PARTS[i], 1);
            due("14: kinds barred by " + PARTS[i], desk.person(3, 6), masks[i]);
            desk.undo();
        }
        desk.rehearse(2, 0, 1);
        desk.rehearse(2, 4, 1);
        due("14: rehearsals today", desk.person(2, 3), 2);
        due("14: no shot", desk.person(2, 4), NONE);
        desk.shoot(1, 2);
        due("14: the day of a shot", desk.person(2, 4), 6);
        due("14: shots", desk.person(2, 5), 1);
        desk.pass(2);
        desk.shoot(0, 2);
        due("14: the latest day", desk.person(2, 4), 8);
        due("14: both shots", desk.person(2, 5), 2);
        due("14: not of others", desk.person(0, 5), 0);
        due("14: no day of others", desk.person(0, 4), NONE);
        for (int person : WRONG_PEOPLE) {
            refuses(desk, "14: person " + person, INDEX, () -> desk.person(person, 0));
            refuses(desk, "14: the person is named first", INDEX, () -> desk.person(person, 7));
        }
        for (int what : new int[] {-1, 7, Integer.MIN_VALUE, Integer.MAX_VALUE}) {
            refuses(desk, "14: what " + what, ARGUMENT, () -> desk.person(0, what));
        }
    }

    private static void promise15Rehearsed() {
        int[] days = {20, 15, 10, 12, 30, 25};
        for (int kind = 0; kind < 6; kind++) {
            StuntDesk desk = new StuntDesk();
            desk.rehearse(0, kind, 3);
            for (int risk = 1; risk <= 5; risk++) {
                due("15: risk " + risk, desk.rehearsed(0, kind, risk), risk <= 4 ? 1 : 0);
            }
            due("15: of others", desk.rehearsed(1, kind, 1), 0);
            due("15: of other kinds", desk.rehearsed(0, (kind + 1) % 6, 1), 0);
            desk.pass(days[kind] - 1);
            due("15: the last day", desk.rehearsed(0, kind, 1), 1);
            desk.pass(1);
            due("15: the day behind it", desk.rehearsed(0, kind, 1), 0);
        }
        StuntDesk desk = new StuntDesk();
        desk.rehearse(0, 5, 1);
        desk.rehearse(0, 5, 4);
        desk.rehearse(0, 5, 5);
        int[] counting = {3, 3, 2, 2, 2};
        for (int risk = 1; risk <= 5; risk++) {
            due("15: several with risk " + risk, desk.rehearsed(0, 5, risk), counting[risk - 1]);
        }
        for (int person : WRONG_PEOPLE) {
            refuses(desk, "15: person " + person, INDEX, () -> desk.rehearsed(person, 0, 1));
            refuses(desk, "15: the person is named first", INDEX, () -> desk.rehearsed(person, 0, 0));
        }
        for (int kind : WRONG_KINDS) {
            refuses(desk, "15: kind " + kind, INDEX, () -> desk.rehearsed(0, kind, 1));
            refuses(desk, "15: the kind is named first", INDEX, () -> desk.rehearsed(0, kind, 0));
        }
        for (int risk : WRONG_RISKS) {
            refuses(desk, "15: risk " + risk, ARGUMENT, () -> desk.rehearsed(0, 0, risk));
        }
    }

    private static void promise16Kind() {
        StuntDesk desk = new StuntDesk();
        int[][] needs = {{1, 2, 3, 4, 5}, {2, 3, 4, 5, 6}, {2, 4, 6, 8, 10}, {3, 4, 5, 6, 7}, {1, 2, 2, 3, 3},
            {1, 2, 3, 4, 5}};
        int[] days = {20, 15, 10, 12, 30, 25};
        int[] masks = {3, 28, 63, 48, 32, 35};
        for (int kind = 0; kind < 6; kind++) {
            for (int risk = 1; risk <= 5; risk++) {
                due("16: needs", desk.kind(kind, risk, 0), needs[kind][risk - 1]);
                due("16: days", desk.kind(kind, risk, 1), days[kind]);
                due("16: parts", desk.kind(kind, risk, 2), masks[kind]);
            }
        }
        for (int kind : WRONG_KINDS) {
            refuses(desk, "16: kind " + kind, INDEX, () -> desk.kind(kind, 1, 0));
            refuses(desk, "16: the kind is named first", INDEX, () -> desk.kind(kind, 0, 3));
        }
        for (int risk : WRONG_RISKS) {
            refuses(desk, "16: risk " + risk, ARGUMENT, () -> desk.kind(0, risk, 1));
        }
        for (int what : new int[] {-1, 3, Integer.MIN_VALUE, Integer.MAX_VALUE}) {
            refuses(desk, "16: what " + what, ARGUMENT, () -> desk.kind(0, 1, what));
        }
    }

    private static void promise17SceneOf() {
        StuntDesk desk = deskWithFight();
        desk.scene(3, 5, 6);
        int[] numbers = {3, 5, 6, NONE, NONE, 0};
        for (int what = 0; what < numbers.length; what++) {
            due("17: number " + what, desk.sceneOf(1, what), numbers[what]);
        }
        desk.rehearse(0, 0, 1);
        desk.rehearse(3, 0, 1);
        desk.rehearse(7, 0, 1);
        due("17: who is cleared", desk.sceneOf(0, 5), 1 + 8 + 128);
        desk.size(3, 176);
        due("17: not who does not look alike", desk.sceneOf(0, 5), 1 + 128);
        desk.shoot(0, 7);
        due("17: nobody for a shot one", desk.sceneOf(0, 5), 0);
        due("17: the day", desk.sceneOf(0, 3), 0);
        due("17: who did it", desk.sceneOf(0, 4), 7);
        for (int scene : new int[] {-1, 2, 10, Integer.MIN_VALUE, Integer.MAX_VALUE}) {
            refuses(desk, "17: scene " + scene, INDEX, () -> desk.sceneOf(scene, 0));
            refuses(desk, "17: the scene is named first", INDEX, () -> desk.sceneOf(scene, 6));
        }
        for (int what : new int[] {-1, 6, Integer.MIN_VALUE, Integer.MAX_VALUE}) {
            refuses(desk, "17: what " + what, ARGUMENT, () -> desk.sceneOf(0, what));
        }
    }

    private static void promise18Count() {
        StuntDesk desk = new StuntDesk();
        desk.scene(0, 1, 0);
        desk.scene(0, 1, 1);
        desk.scene(0, 2, 0);
        desk.pass(3);
        desk.insure(1, 4);
        rehearse(desk, 3, 0, 0, 1);
        due("18: scenes that somebody could shoot", desk.count(9), 2);
        desk.rehearse(0, 4, 1);
        desk.shoot(1, 0);
        int[] counts = {3, 1996, 1, 6, 3, 1, 1, 1, 4, 0, 6};
        for (int what = 0; what < counts.length; what++) {
            due("18: count " + what, desk.count(what), counts[what]);
        }
        desk.pass(2);
        due("18: one could be shot", desk.count(9), 1);
        desk.pass(1);
        due("18: the last day in force", desk.count(2), 1);
        desk.pass(1);
        due("18: not in force", desk.count(2), 0);
        due("18: without one", desk.count(3), NONE);
        due("18: nothing without insurance", desk.count(9), 0);
        for (int what : new int[] {-1, 11, Integer.MIN_VALUE, Integer.MAX_VALUE}) {
            refuses(desk, "18: what " + what, ARGUMENT, () -> desk.count(what));
        }
    }

    private static void promise19Refusal() {
        StuntDesk desk = new StuntDesk();
        desk.scene(0, 2, 0);
        desk.scene(0, 2, 0);
        due("19: not insured", desk.refusal(0, 0), 3);
        desk.insure(1, 60);
        due("19: a step below the risk", desk.refusal(0, 0), 3);
        desk.insure(2, 60);
        due("19: not rehearsed", desk.refusal(0, 0), 6);
        rehearse(desk, 1, 0, 0, 1);
        due("19: too few", desk.refusal(0, 0), 6);
        rehearse(desk, 1, 0, 0, 1);
        due("19: a risk less 1 is enough", desk.refusal(0, 0), 0);
        desk.size(0, 176);
        due("19: the one who is seen may have any size", desk.refusal(0, 0), 0);
        due("19: a gap of 6", desk.refusal(0, 1), 2);
        desk.size(1, 171);
        due("19: a gap of 5", desk.refusal(0, 1), 6);
        desk.size(1, 181);
        due("19: a gap of 5 upwards", desk.refusal(0, 1), 6);
        desk.size(1, 182);
        due("19: a gap of 6 upwards", desk.refusal(0, 1), 2);
        desk.hurt(0, 4, 9);
        due("19: a leg bars no fight", desk.refusal(0, 0), 0);
        desk.hurt(0, 1, 2);
        due("19: barred", desk.refusal(0, 0), 4);
        desk.pass(2);
        due("19: healed", desk.refusal(0, 0), 0);
        desk.shoot(0, 0);
        due("19: shot", desk.refusal(0, 0), 1);
        due("19: shot, also for who does not look alike", desk.refusal(0, 1), 1);
        due("19: a day off at once", desk.refusal(1, 0), 5);
        desk.hurt(0, 2, 1);
        due("19: barred ahead of a day off", desk.refusal(1, 0), 4);
        desk.pass(1);
        due("19: the day behind a shot", desk.refusal(1, 0), 5);
        desk.pass(1);
        due("19: two days behind it", desk.refusal(1, 0), 0);
        desk.pass(15);
        due("19: rehearsals count no more", desk.refusal(1, 0), 0);
        desk.pass(1);
        due("19: rehearsals ran out", desk.refusal(1, 0), 6);
        pass(desk, 40);
        due("19: insurance ran out", desk.refusal(1, 0), 3);
        due("19: not alike ahead of insurance", desk.refusal(1, 1), 2);
        for (int scene : new int[] {-1, 2, Integer.MIN_VALUE, Integer.MAX_VALUE}) {
            refuses(desk, "19: scene " + scene, INDEX, () -> desk.refusal(scene, 0));
        }
        for (int person : WRONG_PEOPLE) {
            refuses(desk, "19: person " + person, INDEX, () -> desk.refusal(0, person));
        }
        StuntDesk fresh = deskWithFight();
        fresh.rehearse(0, 0, 1);
        due("19: no day off on the day 0", fresh.refusal(0, 0), 0);
    }

    private static void promise20Soonest() {
        StuntDesk desk = new StuntDesk();
        desk.scene(4, 1, 0);
        desk.scene(4, 1, 0);
        due("20: without insurance", desk.soonest(0, 0), NONE);
        desk.insure(1, 60);
        due("20: without rehearsals", desk.soonest(0, 0), NONE);
        desk.rehearse(0, 4, 1);
        due("20: today", desk.soonest(0, 0), 0);
        desk.hurt(0, 32, 29);
        due("20: on the last day of a rehearsal", desk.soonest(0, 0), 29);
        desk.hurt(0, 32, 30);
        due("20: behind it", desk.soonest(0, 0), NONE);
        desk.undo();
        desk.undo();
        desk.hurt(0, 32, 10);
        desk.insure(1, 10);
        due("20: the insurance runs out ahead", desk.soonest(0, 0), NONE);
        desk.insure(1, 11);
        due("20: on its last day", desk.soonest(0, 0), 10);
        desk.pass(10);
        desk.shoot(0, 0);
        due("20: a shot one", desk.soonest(0, 0), NONE);
        due("20: no insurance behind the day off", desk.soonest(1, 0), NONE);
        desk.insure(1, 60);
        due("20: behind the day off", desk.soonest(1, 0), 12);
        desk.pass(1);
        due("20: tomorrow", desk.soonest(1, 0), 12);
        desk.pass(1);
        due("20: now", desk.soonest(1, 0), 12);
        desk.size(1, 160);
        due("20: who does not look alike", desk.soonest(1, 1), NONE);
        pass(desk, 987 - 30);
        desk.insure(1, 60);
        desk.pass(29);
        desk.pass(1);
        desk.rehearse(0, 4, 1);
        desk.hurt(0, 32, 20);
        due("20: behind the day 999", desk.soonest(1, 0), 999 + 20);
        for (int scene : new int[] {-1, 2, Integer.MIN_VALUE, Integer.MAX_VALUE}) {
            refuses(desk, "20: scene " + scene, INDEX, () -> desk.soonest(scene, 0));
        }
        for (int person : WRONG_PEOPLE) {
            refuses(desk, "20: person " + person, INDEX, () -> desk.soonest(0, person));
        }
    }

    private static void promise21Lacking() {
        StuntDesk desk = new StuntDesk();
        desk.scene(2, 3, 0);
        desk.scene(4, 1, 0);
        due("21: all", desk.lacking(0, 0), 6);
        desk.rehearse(0, 2, 2);
        due("21: one less", desk.lacking(0, 0), 5);
        desk.rehearse(0, 2, 1);
        due("21: a risk that is too low", desk.lacking(0, 0), 5);
        due("21: of others", desk.lacking(0, 1), 6);
        desk.pass(9);
        due("21: the last day", desk.lacking(0, 0), 5);
        desk.pass(1);
        due("21: over", desk.lacking(0, 0), 6);
        due("21: without size or insurance", desk.lacking(1, 7), 1);
        rehearse(desk, 3, 7, 4, 1);
        due("21: never below 0", desk.lacking(1, 7), 0);
        desk.hurt(7, 32, 60);
        due("21: also if hurt", desk.lacking(1, 7), 0);
        for (int scene : new int[] {-1, 2, Integer.MIN_VALUE, Integer.MAX_VALUE}) {
            refuses(desk, "21: scene " + scene, INDEX, () -> desk.lacking(scene, 0));
        }
        for (int person : WRONG_PEOPLE) {
            refuses(desk, "21: person " + person, INDEX, () -> desk.lacking(0, person));
        }
    }

    private static void promise22Best() {
        StuntDesk desk = new StuntDesk();
        desk.scene(5, 2, 4);
        due("22: the one who is seen", desk.best(0), 4);
        desk.hurt(4, 1, 9);
        due("22: otherwise the lowest", desk.best(0), 0);
        int[] sizes = {165, 174, 167, 173, 170, 176, 164, 173};
        for (int person = 0; person < 8; person++) {
            desk.size(person, sizes[person]);
        }
        due("22: the nearest, of these the lowest", desk.best(0), 2);
        desk.hurt(2, 32, 9);
        due("22: the next nearest", desk.best(0), 3);
        desk.rehearse(1, 5, 1);
        due("22: the fewest lacking", desk.best(0), 1);
        rehearse(desk, 2, 0, 5, 1);
        due("22: still fewer", desk.best(0), 0);
        rehearse(desk, 3, 5, 5, 5);
        due("22: not who does not look alike", desk.best(0), 0);
        desk.rehearse(1, 5, 5);
        desk.rehearse(1, 5, 5);
        due("22: more than enough is no better", desk.best(0), 1);
        desk.pass(9);
        due("22: the one who is seen lacks some", desk.best(0), 1);
        desk.rehearse(4, 5, 5);
        desk.rehearse(4, 5, 5);
        due("22: of several the one who is seen", desk.best(0), 4);
        desk.insure(2, 60);
        desk.shoot(0, 4);
        due("22: a shot one", desk.best(0), NONE);
        StuntDesk alone = new StuntDesk();
        alone.scene(1, 1, 7);
        alone.size(7, 200);
        due("22: alone", alone.best(0), 7);
        alone.hurt(7, 16, 1);
        due("22: none", alone.best(0), NONE);
        alone.pass(1);
        due("22: again", alone.best(0), 7);
        for (int scene : new int[] {-1, 1, Integer.MIN_VALUE, Integer.MAX_VALUE}) {
            refuses(desk, "22: scene " + scene, INDEX, () -> desk.best(scene));
        }
    }

    private static void promise23Cost() {
        StuntDesk desk = new StuntDesk();
        due("23: the cheapest", desk.cost(1, 1), 1);
        due("23: the dearest", desk.cost(5, 60), 1500);
        desk.hurt(0, 1, 1);
        due("23: a tenth is rounded down", desk.cost(1, 9), 9);
        due("23: a tenth", desk.cost(1, 10), 11);
        desk.hurt(0, 1, 1);
        desk.hurt(0, 1, 1);
        due("23: rounded down for all together", desk.cost(1, 9), 11);
        due("23: three tenths", desk.cost(3, 7), 63 + 18);
        desk.undo();
        due("23: undone", desk.cost(1, 9), 10);
        rehearse(desk, 3, 5, 3, 1);
        desk.rehearse(5, 3, 1);
        due("23: tired ones too", desk.cost(1, 9), 11);
        desk.pass(99);
        due("23: also if they are healed", desk.cost(1, 9), 11);
        for (int step : new int[] {0, 6, -1, Integer.MIN_VALUE, Integer.MAX_VALUE}) {
            refuses(desk, "23: step " + step, ARGUMENT, () -> desk.cost(step, 1));
        }
        for (int days : WRONG_DAYS) {
            refuses(desk, "23: days " + days, ARGUMENT, () -> desk.cost(1, days));
        }
    }

    private static void promise24IfHurt() {
        StuntDesk desk = new StuntDesk();
        desk.scene(0, 1, 0);
        desk.scene(0, 1, 1);
        desk.scene(4, 1, 0);
        due("24: none could be shot", desk.ifHurt(0, 1), 0);
        desk.insure(1, 60);
        desk.rehearse(0, 0, 1);
        desk.rehearse(0, 4, 1);
        due("24: both fights", desk.ifHurt(0, 1), 2);
        due("24: the other arm", desk.ifHurt(0, 2), 2);
        due("24: a leg", desk.ifHurt(0, 4), 0);
        due("24: the water", desk.ifHurt(0, 32), 1);
        due("24: another one", desk.ifHurt(1, 1), 0);
        desk.rehearse(1, 0, 1);
        due("24: another one could do it", desk.ifHurt(0, 1), 0);
        desk.size(1, 160);
        due("24: only the own one", desk.ifHurt(0, 1), 1);
        due("24: only the own one here too", desk.ifHurt(1, 1), 1);
        desk.shoot(1, 1);
        due("24: not a shot one", desk.ifHurt(1, 1), 0);
        for (int i = 0; i < 12; i++) {
            desk.hurt(7, 1, 60);
        }
        due("24: with twelve kept", desk.ifHurt(0, 1), 1);
        desk.hurt(0, 2, 60);
        due("24: not if it could not be shot anyhow", desk.ifHurt(0, 1), 0);
        for (int person : WRONG_PEOPLE) {
            refuses(desk, "24: person " + person, INDEX, () -> desk.ifHurt(person, 1));
            refuses(desk, "24: the person is named first", INDEX, () -> desk.ifHurt(person, 3));
        }
        for (int part : WRONG_PARTS) {
            refuses(desk, "24: part " + part, ARGUMENT, () -> desk.ifHurt(0, part));
        }
        StuntDesk head = new StuntDesk();
        head.hurt(0, 32, 60);
        head.scene(4, 1, 0);
        head.scene(4, 1, 1);
        head.insure(1, 60);
        head.size(1, 150);
        head.rehearse(1, 4, 1);
        for (int i = 0; i < 11; i++) {
            head.hurt(7, 1, 60);
        }
        due("24: no other injury goes for it", head.ifHurt(1, 32), 1);
    }

    private static void promise25ShotShare() {
        StuntDesk desk = new StuntDesk();
        due("25: without scenes", Double.doubleToLongBits(desk.shotShare()), Double.doubleToLongBits(1.0));
        desk.scene(0, 1, 0);
        due("25: none is shot", Double.doubleToLongBits(desk.shotShare()), Double.doubleToLongBits(0.0));
        desk.scene(0, 1, 1);
        desk.scene(0, 1, 2);
        desk.insure(1, 60);
        for (int i = 0; i < 3; i++) {
            desk.rehearse(i, 0, 1);
            desk.shoot(i, i);
            due("25: shot ones", Double.doubleToLongBits(desk.shotShare()), Double.doubleToLongBits((i + 1) / 3.0));
        }
    }

    private static void promise26Digest() {
        List<DeskCall> calls = new ArrayList<>();
        calls.add(d -> type(d, "+1x").firstError());
        calls.add(d -> d.insure(1, 60));
        for (int i = 0; i < 10; i++) {
            int scene = i;
            calls.add(d -> d.scene(scene % 2 == 0 ? 0 : 4, 1, scene % 8));
        }
        for (int i = 0; i < 8; i++) {
            int person = i;
            calls.add(d -> d.rehearse(person, person % 2 == 0 ? 0 : 4, 1));
            calls.add(d -> d.shoot(person, person));
        }
        calls.add(d -> d.hurt(3, 32, 4));
        calls.add(d -> d.pass(2));
        calls.add(d -> d.rehearse(0, 0, 1));
        calls.add(d -> d.shoot(8, 0));
        calls.add(d -> d.shoot(9, 1));
        for (int done = 0; done <= calls.size(); done++) {
            StuntDesk desk = deskAfter(calls.subList(0, done));
            long digest = digestByLooks(deskAfter(calls.subList(0, done)), done == 0 ? "" : "+1x");
            due("26: the digest behind " + done + " calls", desk.digest(), digest);
            due("26: twice the same", desk.digest(), digest);
        }
    }

    private static StuntDesk deskAfter(List<DeskCall> calls) {
        StuntDesk desk = new StuntDesk();
        calls.forEach(call -> call.answer(desk));
        return desk;
    }
}
