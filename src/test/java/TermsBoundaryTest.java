import java.lang.reflect.Method;
import java.util.ArrayList;
import java.util.Collections;
import java.util.List;

/** The boundary cases that "The public face" and "Terms" of DOC.md name, sentence by sentence. */
public final class TermsBoundaryTest extends Checks {
    private static final int[] TIRED_PARTS = {1, 4, 16, 16, 4, 1};

    public static void main(String[] args) {
        runAll(TermsBoundaryTest.class);
    }

    // ---- The public face

    static void none() {
        sentence("Terms, exceptions", "`NONE = -1`: There is nothing to return.");
        due("the constant", StuntDesk.NONE, -1);
        StuntDesk desk = new StuntDesk();
        desk.scene(0, 1, 0);
        due("no injury", desk.person(0, 2), -1);
        due("no shot", desk.person(0, 4), -1);
        due("no day of a shot", desk.sceneOf(0, 3), -1);
        due("nobody did it", desk.sceneOf(0, 4), -1);
        due("no insurance", desk.count(3), -1);
        due("on no day", desk.soonest(0, 0), -1);
        desk.hurt(0, 1, 1);
        for (int person = 1; person < 8; person++) {
            desk.size(person, 200);
        }
        due("no best one", desk.best(0), -1);
    }

    static void throwsClauses() {
        sentence("The public face", "throws IndexOutOfBoundsException, IllegalArgumentException, IllegalStateException;");
        List<String> clauses = new ArrayList<>();
        for (Method method : StuntDesk.class.getMethods()) {
            if (method.getDeclaringClass() == StuntDesk.class) {
                StringBuilder clause = new StringBuilder(method.getName());
                for (Class<?> type : method.getExceptionTypes()) {
                    clause.append('-').append(type.getSimpleName().replaceFirst("Illegal|OutOf.*", ""), 0, 5);
                }
                clauses.add(clause.toString());
            }
        }
        Collections.sort(clauses);
        due("the clauses", clauses.toString(), "[append-Argum-State, best-Index, clearBuffer, cost-Argum, count-Argum,"
                + " digest, firstError, hurt-Index-Argum, ifHurt-Index-Argum, insure-Argum-State, kind-Index-Argum,"
                + " lacking-Index, pass-Argum-State, person-Index-Argum, play-Argum, refusal-Index,"
                + " rehearse-Index-Argum-State, rehearsed-Index-Argum, scene-Index-Argum-State, sceneOf-Index-Argum,"
                + " shoot-Index-State, shotShare, size-Index-Argum, soonest-Index, undo-State]");
    }

    static void theLastOf512Calls() {
        sentence("What it is", "An object is used for at most 512 calls after it has been made; what later calls answer"
                + " is free.");
        StuntDesk passing = new StuntDesk();
        for (int call = 1; call <= 512; call++) {
            due("the day behind the call " + call, passing.pass(1), call);
        }
        StuntDesk tired = new StuntDesk();
        for (int call = 1; call <= 511; call++) {
            tired.rehearse(0, 4, 1);
        }
        due("injuries in the last call", tired.count(7), 508);
        StuntDesk dear = new StuntDesk();
        for (int call = 1; call <= 511; call++) {
            dear.hurt(0, 1, 1);
        }
        due("the dearest step in the last call", dear.cost(5, 60), 1500 + 150 * 511);
    }

    // ---- people, kinds

    static void divisionsAreRoundedDown() {
        sentence("Terms", "All numbers are integers, but for a share; divisions are rounded down.");
        StuntDesk desk = new StuntDesk();
        int[] halves = {0, 1, 1, 2, 2};
        for (int risk = 1; risk <= 5; risk++) {
            due("half of the risk " + risk, desk.kind(4, risk, 0), halves[risk - 1] + 1);
        }
        desk.hurt(0, 1, 1);
        due("a tenth of 9", desk.cost(1, 9), 9);
        due("a tenth of 10", desk.cost(1, 10), 11);
        due("a tenth of 19", desk.cost(1, 19), 20);
        desk.scene(0, 1, 0);
        desk.scene(0, 1, 0);
        desk.insure(1, 1);
        desk.rehearse(1, 0, 1);
        desk.shoot(0, 1);
        due("but not a share", Double.toString(desk.shotShare()), "0.5");
    }

    static void eightPeople() {
        sentence("Terms, people, kinds", "There are 8 people, numbered from 0, each with a size, 150 to 200, at first 170.");
        StuntDesk desk = new StuntDesk();
        for (int person = 0; person < 8; person++) {
            due("the size of " + person, desk.person(person, 0), 170);
        }
        Maker withScene = () -> {
            StuntDesk made = new StuntDesk();
            made.scene(0, 1, 0);
            return made;
        };
        range(StuntDesk::new, "size of the person", 0, 7, INDEX, (d, person) -> d.size(person, 170));
        range(StuntDesk::new, "number of the person", 0, 7, INDEX, (d, person) -> d.person(person, 0));
        range(withScene, "refusal of the person", 0, 7, INDEX, (d, person) -> d.refusal(0, person));
        range(StuntDesk::new, "size", 150, 200, ARGUMENT, (d, size) -> d.size(0, size));
    }

    static void lookAlike() {
        sentence("Terms, people, kinds", "Two people look alike, if their sizes differ by at most 5.");
        for (int seen : new int[] {150, 155, 156, 170, 194, 195, 200}) {
            for (int size = Math.max(150, seen - 8); size <= Math.min(200, seen + 8); size++) {
                StuntDesk desk = new StuntDesk();
                desk.scene(0, 1, 3);
                desk.size(3, seen);
                desk.size(4, size);
                due(size + " for " + seen, desk.refusal(0, 4), Math.abs(size - seen) <= 5 ? 3 : 2);
            }
        }
        StuntDesk far = new StuntDesk();
        far.scene(0, 1, 0);
        far.size(0, 150);
        far.size(1, 200);
        due("as far as can be", far.refusal(0, 1), 2);
        due("likewise the other way round", far.scene(0, 1, 1) + far.refusal(1, 0), 1 + 2);
    }

    static void sixKindsAndFiveRisks() {
        sentence("Terms, people, kinds", "There are 6 kinds of stunts, numbered from 0, with risks from 1 to 5:");
        range(StuntDesk::new, "kind", 0, 5, INDEX, (d, kind) -> d.kind(kind, 1, 0));
        range(StuntDesk::new, "rehearsed kind", 0, 5, INDEX, (d, kind) -> d.rehearse(0, kind, 1));
        range(StuntDesk::new, "told kind", 0, 5, INDEX, (d, kind) -> d.scene(kind, 1, 0));
        range(StuntDesk::new, "risk", 1, 5, ARGUMENT, (d, risk) -> d.kind(0, risk, 0));
        range(StuntDesk::new, "rehearsed risk", 1, 5, ARGUMENT, (d, risk) -> d.rehearse(0, 0, risk));
        range(StuntDesk::new, "told risk", 1, 5, ARGUMENT, (d, risk) -> d.scene(0, risk, 0));
    }

    static void kind0Fight() {
        sentence("Terms, people, kinds", "0, a fight: it needs (risk) rehearsals, which count for 20 days,"
                + " and is barred by hurt arms (parts 1 and 2);");
        kindIsAsTold(0, new int[] {1, 2, 3, 4, 5}, 20, 1 + 2);
    }

    static void kind1Fall() {
        sentence("Terms, people, kinds", "1, a fall: it needs (risk and 1) rehearsals, which count for 15 days,"
                + " and is barred by hurt legs (parts 4 and 8) and the back (16);");
        kindIsAsTold(1, new int[] {2, 3, 4, 5, 6}, 15, 4 + 8 + 16);
    }

    static void kind2Fire() {
        sentence("Terms, people, kinds", "2, fire: it needs (2 times the risk) rehearsals, which count for 10 days,"
                + " and is barred by any hurt part;");
        kindIsAsTold(2, new int[] {2, 4, 6, 8, 10}, 10, 1 + 2 + 4 + 8 + 16 + 32);
    }

    static void kind3Wire() {
        sentence("Terms, people, kinds", "3, a wire: it needs (risk and 2) rehearsals, which count for 12 days,"
                + " and is barred by the back (16) and the head (32);");
        kindIsAsTold(3, new int[] {3, 4, 5, 6, 7}, 12, 16 + 32);
    }

    static void kind4Water() {
        sentence("Terms, people, kinds", "4, water: it needs (risk / 2 and 1) rehearsals, which count for 30 days,"
                + " and is barred by the head (32);");
        kindIsAsTold(4, new int[] {1, 2, 2, 3, 3}, 30, 32);
    }

    static void kind5Driving() {
        sentence("Terms, people, kinds", "5, driving: it needs (risk) rehearsals, which count for 25 days,"
                + " and is barred by the head (32) and arms (1 and 2).");
        kindIsAsTold(5, new int[] {1, 2, 3, 4, 5}, 25, 32 + 1 + 2);
    }

    private static void kindIsAsTold(int kind, int[] needs, int days, int mask) {
        for (int risk = 1; risk <= 5; risk++) {
            int need = needs[risk - 1];
            StuntDesk desk = new StuntDesk();
            due("needed", desk.kind(kind, risk, 0), need);
            due("days", desk.kind(kind, risk, 1), days);
            due("parts", desk.kind(kind, risk, 2), mask);
            desk.scene(kind, risk, 0);
            desk.insure(5, 60);
            rehearseOverDays(desk, 0, need - 1, kind, risk);
            due("one too few of risk " + risk, desk.refusal(0, 0), 6);
            due("one is lacking", desk.lacking(0, 0), 1);
            rehearseOverDays(desk, need - 1, need, kind, risk);
            due("just enough of risk " + risk, desk.refusal(0, 0), 0);
            desk.pass(days - 1 - desk.count(0));
            due("the last day of the first ones", desk.refusal(0, 0), 0);
            desk.pass(1);
            due("the day behind it", desk.refusal(0, 0), 6);
            due("those of the first day are lacking", desk.lacking(0, 0), Math.min(need, 3));
        }
        for (int part : PARTS) {
            StuntDesk desk = new StuntDesk();
            desk.scene(kind, 1, 0);
            desk.insure(5, 60);
            rehearse(desk, needs[0], 0, kind, 1);
            desk.hurt(0, part, 1);
            boolean bars = (mask & part) != 0;
            due("refused with the part " + part, desk.refusal(0, 0), bars ? 4 : 0);
            due("barred by the part " + part, desk.person(0, 6) >> kind & 1, bars ? 1 : 0);
            desk.hurt(1, part, 1);
            due("rehearsing with the part " + part, thrownBy(() -> desk.rehearse(1, kind, 1)), bars ? STATE : "the answer 1");
        }
    }

    /** Three a day from the day 0 on, so that nobody is hurt by them. */
    private static void rehearseOverDays(StuntDesk desk, int from, int to, int kind, int risk) {
        for (int i = from; i < to; i++) {
            if (i > 0 && i % 3 == 0) {
                desk.pass(1);
            }
            due("it counts", desk.rehearse(0, kind, risk), 1);
        }
    }

    static void partsAreAMask() {
        sentence("Terms, people, kinds",
                "Parts are a mask: 1 and 2 the arms, 4 and 8 the legs, 16 the back, 32 the head.");
        StuntDesk desk = new StuntDesk();
        int mask = 0;
        for (int part : PARTS) {
            desk.hurt(5, part, 1);
            mask += part;
            due("hurt up to " + part, desk.person(5, 1), mask);
        }
        desk.hurt(5, 8, 1);
        due("twice the same", desk.person(5, 1), 63);
        for (int part : new int[] {0, -1, 3, 5, 6, 7, 9, 12, 15, 17, 24, 31, 33, 48, 63, 64, 128, 257, 65537, -32,
            Integer.MIN_VALUE, Integer.MAX_VALUE}) {
            refuses(StuntDesk::new, "the part " + part, ARGUMENT, d -> d.hurt(0, part, 1));
            refuses(StuntDesk::new, "if the part were " + part, ARGUMENT, d -> d.ifHurt(0, part));
        }
    }

    // ---- Days, rehearsals, injuries

    static void theDayIsFrom0To999() {
        sentence("Terms, days, rehearsals, injuries", "The day is 0 at first, and at most 999.");
        due("at first", new StuntDesk().count(0), 0);
        due("the last day", deskOnDay(900).pass(99), 999);
        due("the last day, by one", deskOnDay(998).pass(1), 999);
        refuses(() -> deskOnDay(999), "the day 1000", STATE, d -> d.pass(1));
        refuses(() -> deskOnDay(901), "the day 1000, by many", STATE, d -> d.pass(99));
        StuntDesk last = deskOnDay(999);
        due("a plan goes no further", play(last, "+1"), 0);
        due("the day is the same", last.count(0), 999);
    }

    static void aRehearsalCountsForSomeDays() {
        sentence("Terms, days, rehearsals, injuries", "A rehearsal of a kind with a risk, by someone, on a day,"
                + " counts on that day and on as many days behind it as the kind tells, less 1.");
        for (int kind = 0; kind < 6; kind++) {
            for (int day : new int[] {0, 1, 999 - COUNTING_DAYS[kind]}) {
                StuntDesk desk = deskOnDay(day);
                desk.rehearse(2, kind, 1);
                for (int behind = 0; behind < COUNTING_DAYS[kind]; behind++) {
                    due("kind " + kind + ", days behind: " + behind, desk.rehearsed(2, kind, 1), 1);
                    desk.pass(1);
                }
                due("kind " + kind + ", no more", desk.rehearsed(2, kind, 1), 0);
            }
        }
    }

    static void atMost40RehearsalsAreKept() {
        sentence("Terms, days, rehearsals, injuries", "At most 40 rehearsals are kept (those by which someone was hurt"
                + " are none of them); the oldest one is dropped first.");
        for (int many : new int[] {0, 1, 39, 40, 41, 42, 43, 60, 79, 80, 81}) {
            theLatest40Count(deskWithRehearsals(many), many);
            StuntDesk undone = deskWithRehearsals(many);
            play(undone, "+1;7r25;7r25;7r25;+1;6r23;6r23");
            undone.undo();
            theLatest40Count(undone, many);
        }
        StuntDesk full = deskWithRehearsals(40);
        due("three of them were today", full.person(4, 3), 3);
        due("one that hurts", full.rehearse(4, 4, 1), 0);
        due("drops none", full.rehearsed(0, 4, 1), 4);
        due("one that counts", full.rehearse(6, 0, 1), 1);
        due("drops the oldest", full.rehearsed(0, 4, 1), 3);
        full.undo();
        due("which comes back", full.rehearsed(0, 4, 1), 4);
        StuntDesk dropped = dropOfAKind(39);
        due("with 40 the oldest is kept, though others count no more", dropped.rehearsed(0, 4, 1), 1);
        dropped.rehearse(7, 0, 1);
        due("with 41 the oldest is dropped, though others count no more", dropped.rehearsed(0, 4, 1), 0);
    }

    /** Of the kinds 4 and 5 in turn, three by each person a day, the risks going round; all of them count. */
    private static StuntDesk deskWithRehearsals(int many) {
        StuntDesk desk = new StuntDesk();
        for (int i = 0; i < many; i++) {
            if (i > 0 && i % 24 == 0) {
                desk.pass(1);
            }
            desk.rehearse(i / 3 % 8, 4 + i % 2, 1 + i % 5);
        }
        return desk;
    }

    /** Today, and on some days on which those of one day count and those of the day ahead of it do not any more. */
    private static void theLatest40Count(StuntDesk desk, int many) {
        due("so far", desk.count(8), many);
        for (int day : new int[] {desk.count(0), 25, 26, 31}) {
            if (day > desk.count(0)) {
                desk.pass(day - desk.count(0));
            }
            for (int person = 0; person < 8; person++) {
                for (int risk = 1; risk <= 5; risk++) {
                    for (int kind = 4; kind <= 5; kind++) {
                        due(many + " rehearsals, of the risk " + risk + " on the day " + day,
                                desk.rehearsed(person, kind, risk), expectedOf(many, person, kind, risk, day));
                    }
                }
            }
        }
    }

    private static int expectedOf(int many, int person, int kind, int risk, int day) {
        int counting = 0;
        for (int i = Math.max(0, many - 40); i < many; i++) {
            boolean asked = i / 3 % 8 == person && 4 + i % 2 == kind && 1 + i % 5 >= risk - 1;
            counting += asked && day < i / 24 + COUNTING_DAYS[kind] ? 1 : 0;
        }
        return counting;
    }

    /** One for water, then so many with fire, which do not count any more. */
    private static StuntDesk dropOfAKind(int fires) {
        StuntDesk desk = new StuntDesk();
        desk.rehearse(0, 4, 1);
        for (int i = 0; i < fires; i++) {
            if (i > 0 && i % 21 == 0) {
                desk.pass(1);
            }
            due("it counts", desk.rehearse(1 + i / 3 % 7, 2, 1), 1);
        }
        desk.pass(20);
        due("fire counts no more", desk.rehearsed(1, 2, 1), 0);
        return desk;
    }

    static void anInjuryIsInForceForSomeDays() {
        sentence("Terms, days, rehearsals, injuries", "An injury has a part, and a number of days: it is in force on"
                + " its day and on so many days behind it, less 1.");
        for (int days : new int[] {1, 2, 3, 59, 60}) {
            for (int day : new int[] {0, 7, 999 - days}) {
                StuntDesk desk = deskOnDay(day);
                desk.hurt(6, 32, days);
                for (int behind = 0; behind < days; behind++) {
                    due(days + " days, behind: " + behind, desk.person(6, 1), 32);
                    due("it bars", thrownBy(() -> desk.rehearse(6, 4, 1)), STATE);
                    desk.pass(1);
                }
                due(days + " days, no more", desk.person(6, 1), 0);
                due("it bars no more", desk.rehearse(6, 4, 1), 1);
            }
        }
    }

    static void atMost12InjuriesAreKept() {
        sentence("Terms, days, rehearsals, injuries", "At most 12 injuries are kept, likewise.");
        for (int many = 0; many <= 30; many++) {
            theLatest12AreInForce(deskWithInjuries(many), many);
            StuntDesk undone = deskWithInjuries(many);
            for (int i = 0; i < 5; i++) {
                undone.hurt(7 - i, 32, 60);
            }
            for (int i = 0; i < 5; i++) {
                undone.undo();
            }
            theLatest12AreInForce(undone, many);
        }
        StuntDesk desk = new StuntDesk();
        desk.hurt(0, 1, 60);
        for (int i = 0; i < 11; i++) {
            desk.hurt(1, 2, 1);
        }
        desk.pass(5);
        due("with 12 the oldest is kept", desk.person(0, 1), 1);
        desk.hurt(2, 4, 1);
        due("with 13 the oldest is dropped, though others are not in force any more", desk.person(0, 1), 0);
        desk.undo();
        due("which comes back", desk.person(0, 1), 1);
        rehearse(desk, 3, 3, 0, 1);
        due("with rehearsals that count it is kept", desk.person(0, 1), 1);
        desk.rehearse(3, 0, 1);
        due("one by a rehearsal drops it", desk.person(0, 1), 0);
    }

    private static void theLatest12AreInForce(StuntDesk desk, int many) {
        due("so far", desk.count(7), many);
        for (int person = 0; person < 8; person++) {
            int mask = 0;
            int last = NONE;
            for (int i = Math.max(0, many - 12); i < many; i++) {
                mask |= i % 8 == person ? PARTS[i / 8 % 6] : 0;
                last = i % 8 == person ? Math.max(last, 59 - i) : last;
            }
            due(many + " injuries, of the person " + person, desk.person(person, 1), mask);
            due("the last day of them", desk.person(person, 2), last);
        }
    }

    private static StuntDesk deskWithInjuries(int many) {
        StuntDesk desk = new StuntDesk();
        for (int i = 0; i < many; i++) {
            desk.hurt(i % 8, PARTS[i / 8 % 6], 60 - i);
        }
        return desk;
    }

    static void oneMayRehearseOnlyIfNotBarred() {
        sentence("Terms, days, rehearsals, injuries", "One may rehearse only with no injury in force that bars the kind.");
        for (int kind = 0; kind < 6; kind++) {
            for (int part : PARTS) {
                int asked = kind;
                StuntDesk desk = new StuntDesk();
                desk.hurt(3, part, 2);
                String due = (BARRING_PARTS[kind] & part) != 0 ? STATE : "the answer 1";
                due("on its day", thrownBy(() -> desk.rehearse(3, asked, 1)), due);
                desk.pass(1);
                due("on its last day", thrownBy(() -> desk.rehearse(3, asked, 1)), due);
                desk.pass(1);
                due("behind it", thrownBy(() -> desk.rehearse(3, asked, 1)), "the answer 1");
                desk.hurt(4, 32, 1);
                due("an injury of somebody else", thrownBy(() -> desk.rehearse(3, asked, 1)), "the answer 1");
            }
        }
    }

    static void theFourthRehearsalOnADayHurts() {
        sentence("Terms, days, rehearsals, injuries", "Whoever rehearses for the fourth time on one day, or more"
                + " (whatever the kinds are), is hurt by it: of the kinds 0 and 5 the part 1, of the kinds 1 and 4"
                + " the part 4, of 2 and 3 the part 16, for as many days as 2 times the risk; this rehearsal does not count.");
        for (int kind = 0; kind < 6; kind++) {
            for (int risk = 1; risk <= 5; risk++) {
                StuntDesk desk = deskOnDay(3);
                due("the first", desk.rehearse(2, 0, 5), 1);
                due("the second", desk.rehearse(2, 4, 5), 1);
                due("the third", desk.rehearse(2, 3, 5), 1);
                due("somebody else's first", desk.rehearse(1, kind, risk), 1);
                int counted = desk.rehearsed(2, kind, 1);
                due("the fourth", desk.rehearse(2, kind, risk), 0);
                due("it does not count", desk.rehearsed(2, kind, 1), counted);
                due("the part", desk.person(2, 1), TIRED_PARTS[kind]);
                due("nobody else", desk.person(1, 1), 0);
                desk.pass(2 * risk - 1);
                due("the last day", desk.person(2, 1), TIRED_PARTS[kind]);
                desk.pass(1);
                due("behind it", desk.person(2, 1), 0);
            }
        }
        StuntDesk more = new StuntDesk();
        rehearse(more, 3, 0, 4, 1);
        for (int time = 4; time <= 9; time++) {
            due("time " + time, more.rehearse(0, 4, 1), 0);
            due("injuries", more.count(7), time - 3);
            due("none counts", more.rehearsed(0, 4, 1), 3);
        }
        more.pass(1);
        rehearse(more, 3, 0, 4, 1);
        due("three count on the next day", more.rehearsed(0, 4, 1), 6);
        due("the fourth of that day", more.rehearse(0, 4, 1), 0);
        StuntDesk refused = new StuntDesk();
        refused.hurt(0, 1, 1);
        for (int i = 0; i < 5; i++) {
            due("a refused one", thrownBy(() -> refused.rehearse(0, 0, 1)), STATE);
        }
        rehearse(refused, 3, 0, 4, 1);
        due("the fourth behind refused ones", refused.rehearse(0, 4, 1), 0);
    }

    // ---- Insurance

    static void theInsuranceHasAStepInForceOnSomeDays() {
        sentence("Terms, insurance", "The insurance has a step, 0 to 5, at first 0, which is in force on some days,"
                + " from the day on which it was bought.");
        due("at first", new StuntDesk().count(2), 0);
        range(StuntDesk::new, "step", 1, 5, ARGUMENT, (d, step) -> d.insure(step, 1));
        for (int days : new int[] {1, 2, 59, 60}) {
            StuntDesk desk = deskOnDay(5);
            desk.insure(4, days);
            for (int behind = 0; behind < days; behind++) {
                due(days + " days, behind: " + behind, desk.count(2), 4);
                due("the last day", desk.count(3), 5 + days - 1);
                desk.pass(1);
            }
            due(days + " days, no more", desk.count(2), 0);
            due("no last day", desk.count(3), NONE);
        }
    }

    static void itCoversRisksUpToItsStep() {
        sentence("Terms, insurance", "It covers risks up to its step.");
        for (int step = 0; step <= 5; step++) {
            for (int risk = 1; risk <= 5; risk++) {
                StuntDesk desk = new StuntDesk();
                desk.scene(0, risk, 0);
                if (step > 0) {
                    desk.insure(step, 1);
                }
                due("the step " + step + " for the risk " + risk, desk.refusal(0, 0), risk <= step ? 6 : 3);
            }
        }
    }

    static void aStepIsPaidFromThePurse() {
        sentence("Terms, insurance", "A step for some days costs days times step times step, and is paid from the purse,"
                + " which has 2000 at first.");
        due("at first", new StuntDesk().count(1), 2000);
        for (int step = 1; step <= 5; step++) {
            for (int days = 1; days <= 60; days++) {
                StuntDesk desk = new StuntDesk();
                due("cost", desk.cost(step, days), days * step * step);
                due("what is left", desk.insure(step, days), 2000 - days * step * step);
            }
        }
        Maker with500 = () -> {
            StuntDesk desk = new StuntDesk();
            desk.insure(5, 60);
            return desk;
        };
        refuses(with500, "25 more than there is", STATE, d -> d.insure(5, 21));
        due("all of it", with500.make().insure(5, 20), 0);
        due("all but 4", with500.make().insure(4, 31), 4);
        Maker with0 = () -> {
            StuntDesk desk = with500.make();
            desk.insure(5, 20);
            return desk;
        };
        refuses(with0, "an empty purse", STATE, d -> d.insure(1, 1));
    }

    static void injuriesMakeStepsDearer() {
        sentence("Terms, insurance", "Each injury so far makes each further step dearer by a tenth of that cost,"
                + " rounded down for all of them together.");
        StuntDesk desk = new StuntDesk();
        desk.insure(1, 1);
        for (int injuries = 0; injuries <= 30; injuries++) {
            for (int days : new int[] {1, 3, 9, 10, 11}) {
                due(injuries + " injuries, " + days + " days", desk.cost(1, days), days + days * injuries / 10);
            }
            due("the dearest", desk.cost(5, 60), 1500 + 150 * injuries);
            due("what was bought gets no dearer", desk.count(1), 1999);
            desk.hurt(injuries % 8, 32, 1);
        }
        desk.pass(2);
        due("also if they are healed, and dropped", desk.cost(1, 10), 10 + 31);
        desk.undo();
        desk.undo();
        due("an undone one makes nothing dearer", desk.cost(1, 10), 10 + 30);
        rehearse(desk, 3, 0, 0, 1);
        due("rehearsals that count make nothing dearer", desk.cost(1, 10), 10 + 30);
    }

    // ---- Scenes

    static void atMostTenScenes() {
        sentence("Terms, scenes", "There are at most 10 scenes, numbered from 0 in the order in which they were told:"
                + " a kind, a risk, and a person who is seen.");
        Maker full = () -> deskWithScenes(10);
        for (int told = 0; told < 10; told++) {
            due("its number", deskWithScenes(told).scene(1, 1, 1), told);
        }
        refuses(full, "the eleventh", STATE, d -> d.scene(0, 1, 0));
        StuntDesk desk = full.make();
        due("so many", desk.count(4), 10);
        for (int scene = 0; scene < 10; scene++) {
            due("its kind", desk.sceneOf(scene, 0), scene % 6);
            due("its risk", desk.sceneOf(scene, 1), 1 + scene % 5);
            due("who is seen", desk.sceneOf(scene, 2), scene % 8);
        }
        desk.undo();
        due("one place is free again", desk.scene(0, 1, 0), 9);
    }

    private static StuntDesk deskWithScenes(int told) {
        StuntDesk desk = new StuntDesk();
        for (int i = 0; i < told; i++) {
            desk.scene(i % 6, 1 + i % 5, i % 8);
        }
        return desk;
    }

    static void aSceneIsShotAtMostOnce() {
        sentence("Terms, scenes", "A scene is shot at most once.");
        Maker shot = () -> {
            StuntDesk desk = new StuntDesk();
            desk.scene(0, 1, 0);
            desk.insure(1, 60);
            desk.rehearse(0, 0, 1);
            desk.rehearse(1, 0, 1);
            desk.shoot(0, 0);
            return desk;
        };
        refuses(shot, "again", STATE, d -> d.shoot(0, 0));
        refuses(shot, "by another one", STATE, d -> d.shoot(0, 1));
        StuntDesk later = shot.make();
        later.pass(2);
        due("later", thrownBy(() -> later.shoot(0, 1)), STATE);
        due("one is shot", later.count(5), 1);
    }

    static void theFirstReasonThatApplies() {
        sentence("Terms, scenes", "Whoever is to do a scene's stunt on a day is refused for the first of these reasons"
                + " that applies:");
        for (int reasons = 0; reasons < 64; reasons++) {
            StuntDesk desk = deskWithReasons(reasons);
            int first = reasons == 0 ? 0 : 1 + Integer.numberOfTrailingZeros(reasons);
            due("the reasons " + Integer.toBinaryString(reasons), desk.refusal(1, 1), first);
            due("shooting with them", thrownBy(() -> desk.shoot(1, 1)), first == 0 ? "the answer 1" : STATE);
        }
    }

    /** The bit 0 stands for the reason 1, and so on; asked is the person 1 for the scene 1. */
    private static StuntDesk deskWithReasons(int reasons) {
        StuntDesk desk = new StuntDesk();
        desk.scene(0, 1, 1);
        desk.scene(0, 2, 0);
        desk.insure(2, 60);
        desk.rehearse(1, 0, 1);
        if ((reasons & 32) == 0) {
            desk.rehearse(1, 0, 1);
        }
        if ((reasons & 16) != 0) {
            desk.shoot(0, 1);
        }
        if ((reasons & 1) != 0) {
            rehearse(desk, 2, 2, 0, 1);
            desk.shoot(1, 2);
        }
        if ((reasons & 2) != 0) {
            desk.size(1, 176);
        }
        if ((reasons & 4) != 0) {
            desk.insure(1, 60);
        }
        if ((reasons & 8) != 0) {
            desk.hurt(1, 2, 60);
        }
        return desk;
    }

    static void reason1() {
        sentence("Terms, scenes", "1: the scene is shot;");
        StuntDesk desk = deskWithReasons(1);
        for (int person = 0; person < 8; person++) {
            due("the person " + person, desk.refusal(1, person), 1);
            due("the other scene is not shot", desk.refusal(0, person), person == 1 ? 0 : person == 2 ? 5 : 6);
        }
        desk.undo();
        due("undone", desk.refusal(1, 2), 0);
    }

    static void otherwiseCleared() {
        sentence("Terms, scenes", "Otherwise this one is cleared.");
        StuntDesk desk = deskWithReasons(0);
        due("no reason", desk.refusal(1, 1), 0);
        due("its bit", desk.sceneOf(1, 5), 1 << 1);
        due("today", desk.soonest(1, 1), 0);
        due("a shot", desk.shoot(1, 1), 1);
    }

    static void reason2() {
        sentence("Terms, scenes", "2: this is not the person who is seen, and does not look alike;");
        StuntDesk desk = new StuntDesk();
        desk.scene(0, 1, 4);
        for (int size : new int[] {150, 164, 165, 175, 176, 200}) {
            desk.size(4, size);
            due("the one who is seen, with the size " + size, desk.refusal(0, 4), 3);
            due("a double of 170 for " + size, desk.refusal(0, 5), Math.abs(size - 170) <= 5 ? 3 : 2);
        }
    }

    static void reason3() {
        sentence("Terms, scenes", "3: the insurance in force on that day is below the risk (0 if none is in force);");
        StuntDesk desk = new StuntDesk();
        desk.scene(0, 1, 0);
        desk.scene(0, 3, 0);
        due("none was bought", desk.refusal(0, 0), 3);
        desk.insure(3, 2);
        due("the step 3 for the risk 3", desk.refusal(1, 0), 6);
        desk.pass(1);
        due("on the last day", desk.refusal(1, 0), 6);
        desk.pass(1);
        due("none is in force any more, for the risk 3", desk.refusal(1, 0), 3);
        due("none is in force any more, for the risk 1", desk.refusal(0, 0), 3);
        desk.insure(2, 1);
        due("the step 2 for the risk 3", desk.refusal(1, 0), 3);
    }

    static void reason4() {
        sentence("Terms, scenes", "4: an injury in force bars the kind;");
        StuntDesk desk = new StuntDesk();
        desk.scene(0, 1, 0);
        desk.insure(1, 60);
        desk.rehearse(0, 0, 1);
        desk.hurt(0, 4, 60);
        due("an injury that does not bar", desk.refusal(0, 0), 0);
        desk.hurt(1, 1, 60);
        due("an injury of somebody else", desk.refusal(0, 0), 0);
        desk.hurt(0, 1, 3);
        desk.hurt(0, 2, 1);
        due("one that bars", desk.refusal(0, 0), 4);
        desk.pass(2);
        due("on its last day", desk.refusal(0, 0), 4);
        desk.pass(1);
        due("behind it", desk.refusal(0, 0), 0);
    }

    static void reason5() {
        sentence("Terms, scenes", "5: this one shot a scene on that day, or on the day ahead of it;");
        for (int day : new int[] {0, 1, 996}) {
            StuntDesk desk = deskOnDay(day);
            desk.scene(0, 1, 0);
            desk.scene(0, 1, 0);
            desk.insure(1, 60);
            desk.rehearse(0, 0, 1);
            desk.rehearse(1, 0, 1);
            due("nothing was shot", desk.refusal(0, 1), 0);
            due("a double", desk.shoot(0, 1), 1);
            due("on that day", desk.refusal(1, 1), 5);
            due("the one who is seen did not shoot", desk.refusal(1, 0), 0);
            desk.pass(1);
            due("on the day behind it", desk.refusal(1, 1), 5);
            desk.pass(1);
            due("two days behind it", desk.refusal(1, 1), 0);
            due("shot two days behind it", desk.shoot(1, 1), 1);
        }
    }

    static void reason6() {
        sentence("Terms, scenes", "6: there are fewer rehearsals by this one of this kind that count on that day,"
                + " with a risk of at least the scene's less 1, than the kind needs for the risk (as the clearance tells).");
        for (int risk = 1; risk <= 5; risk++) {
            for (int rehearsed = 1; rehearsed <= 5; rehearsed++) {
                StuntDesk desk = new StuntDesk();
                desk.scene(4, risk, 0);
                desk.insure(5, 60);
                rehearse(desk, 3, 0, 4, rehearsed);
                due("the risk " + rehearsed + " for " + risk, desk.refusal(0, 0), rehearsed >= risk - 1 ? 0 : 6);
            }
        }
        StuntDesk desk = new StuntDesk();
        desk.scene(0, 2, 0);
        desk.insure(5, 60);
        rehearse(desk, 3, 1, 0, 5);
        due("those of somebody else", desk.refusal(0, 0), 6);
        rehearse(desk, 1, 0, 5, 5);
        due("those of another kind", desk.refusal(0, 0), 6);
        rehearse(desk, 1, 0, 0, 1);
        due("one too few", desk.refusal(0, 0), 6);
        desk.pass(1);
        rehearse(desk, 1, 0, 0, 2);
        due("enough", desk.refusal(0, 0), 0);
        desk.pass(18);
        due("the last day on which the first one counts", desk.refusal(0, 0), 0);
        desk.pass(1);
        due("the day behind it", desk.refusal(0, 0), 6);
    }

    static void onlySomeoneWhoIsClearedShoots() {
        sentence("Terms, scenes", "Only someone who is cleared shoots a scene, on the day of now.");
        for (int reason = 1; reason <= 6; reason++) {
            int bit = 1 << (reason - 1);
            due("the reason", deskWithReasons(bit).refusal(1, 1), reason);
            refuses(() -> deskWithReasons(bit), "reason " + reason, STATE, d -> d.shoot(1, 1));
        }
        StuntDesk desk = deskWithReasons(0);
        desk.pass(19);
        due("cleared", desk.shoot(1, 1), 1);
        due("the day of now", desk.sceneOf(1, 3), 19);
    }

    // ---- Input text

    static void theBufferHasAtMost60() {
        sentence("Terms, input text", "The buffer has at most 60 characters.");
        StuntDesk desk = new StuntDesk();
        for (int length = 1; length <= 60; length++) {
            due("the length", desk.append('+'), length);
        }
        refuses(() -> type(new StuntDesk(), "+".repeat(60)), "the 61st", STATE, d -> d.append('+'));
        due("sixty", desk.clearBuffer(), 60);
        due("free again", desk.append('+'), 1);
    }

    static void aPlanAsAText() {
        sentence("Terms, input text", "A plan as a text is one or more parts with \";\" between them: a person, 0 to 7,"
                + " \"r\", a kind, 0 to 5, and a risk, 1 to 5 (a rehearsal); \"+\" and days, 1 to 99 without a leading zero"
                + " (they pass); or \"!\", a scene, 0 to 9, and a person, 0 to 7 (it is shot by this one).");
        for (int person = 0; person <= 7; person++) {
            for (int kind = 0; kind <= 5; kind++) {
                for (int risk = 1; risk <= 5; risk++) {
                    StuntDesk desk = new StuntDesk();
                    due("a rehearsal", play(desk, person + "r" + kind + risk), 1);
                    due("it is done", desk.rehearsed(person, kind, Math.min(risk + 1, 5)), 1);
                    due("with this risk", desk.rehearsed(person, kind, Math.min(risk + 2, 5)), risk >= 4 ? 1 : 0);
                }
            }
        }
        for (int days = 1; days <= 99; days++) {
            StuntDesk desk = new StuntDesk();
            due("days", play(desk, "+" + days), 1);
            due("they passed", desk.count(0), days);
        }
        for (int scene = 0; scene <= 9; scene++) {
            for (int person = 0; person <= 7; person++) {
                StuntDesk desk = deskReadyToShoot(person);
                due("a shot", play(desk, "!" + scene + person), 1);
                due("shot by this one", desk.sceneOf(scene, 4), person);
            }
        }
        String[] notPlans = {"", ";", "+", "+0", "+00", "+01", "+09", "+100", "+-1", "8r01", "0r61", "0r00", "0r06", "0r0",
            "0r", "0", "!", "!0", "!08", "!000", "!:0", "+1;", ";+1", "+1;;+1", "+1+1", "0R01", "0r010", "+1;0", "+1;!0"};
        for (String text : notPlans) {
            refuses(() -> type(new StuntDesk(), text), "no plan: " + text, ARGUMENT, StuntDesk::play);
        }
    }

    /** Ten fights, for which one person is cleared. */
    private static StuntDesk deskReadyToShoot(int person) {
        StuntDesk desk = new StuntDesk();
        for (int scene = 0; scene < 10; scene++) {
            desk.scene(0, 1, scene % 8);
        }
        desk.insure(1, 1);
        desk.rehearse(person, 0, 1);
        return desk;
    }

    static void aCharacterIsASyntaxError() {
        sentence("Terms, input text", "The buffer is read from left to right; a character is a syntax error if no plan"
                + " as a text, of any length, begins with the characters before it and this character.");
        String[][] allowed = {{"", "01234567+!"}, {"0", "r"}, {"7", "r"}, {"0r", "012345"}, {"0r0", "12345"},
            {"7r5", "12345"}, {"0r01", ";"}, {"7r55", ";"}, {"+", "123456789"}, {"+1", "0123456789;"},
            {"+9", "0123456789;"}, {"+10", ";"}, {"+99", ";"}, {"!", "0123456789"}, {"!0", "01234567"},
            {"!9", "01234567"}, {"!00", ";"}, {"!97", ";"}};
        String[] ahead = {"", "0r01;", "+1;", "+10;", "!00;", "+1;".repeat(18)};
        for (String[] state : allowed) {
            for (String parts : ahead) {
                for (char code = 33; code <= 126; code++) {
                    String text = parts + state[0];
                    StuntDesk desk = type(new StuntDesk(), text + code);
                    int error = state[1].indexOf(code) >= 0 ? text.length() + 1 : text.length();
                    due(text + code, desk.firstError(), error);
                }
            }
        }
        String toTheEdge = "+1;".repeat(19);
        due("a wrong person at the last place", type(new StuntDesk(), toTheEdge + "!98").firstError(), 59);
        due("a part that the buffer has no place for", type(new StuntDesk(), toTheEdge + "0r5").firstError(), 60);
        due("nor is a ; at the end", type(new StuntDesk(), "+1;".repeat(20)).firstError(), 60);
        due("a wrong end at the last place", type(new StuntDesk(), toTheEdge + "+1x").firstError(), 59);
        due("the first place", type(new StuntDesk(), "x".repeat(60)).firstError(), 0);
    }

    // ---- Undo

    private static StuntDesk deskInUse() {
        StuntDesk desk = new StuntDesk();
        desk.insure(1, 60);
        desk.scene(0, 1, 0);
        desk.scene(4, 1, 1);
        desk.hurt(2, 8, 9);
        play(desk, "0r01;1r43;2r55;2r55;2r55;2r55;+2;1r41;!11;+1");
        type(desk, "0r");
        return desk;
    }

    private static DeskCall[] undoableCalls() {
        return new DeskCall[] {d -> d.size(1, 160), d -> d.size(1, 170), d -> d.pass(1), d -> d.rehearse(3, 2, 4),
            d -> d.hurt(0, 2, 7), d -> d.insure(1, 60), d -> d.insure(3, 1), d -> d.scene(5, 5, 7), d -> d.shoot(0, 0)};
    }

    static void eachUndoableCallSavesTheState() {
        sentence("Terms, undo", "Each method that is marked \"undoable\" and does not throw an exception saves the state"
                + " from before it (also if it changes nothing): all, also what is counted so far, but the buffer and"
                + " the saved states.");
        for (DeskCall call : undoableCalls()) {
            StuntDesk desk = deskInUse();
            due("saved states", desk.count(10), 5);
            call.answer(desk);
            due("one more", desk.count(10), 6);
            due("undone", desk.undo(), 5);
            dueAlike("an undone call", desk, deskInUse());
        }
        DeskCall[] others = {d -> d.append('0'), StuntDesk::clearBuffer, StuntDesk::firstError, d -> d.person(0, 0),
            d -> d.rehearsed(0, 0, 1), d -> d.kind(0, 1, 0), d -> d.sceneOf(0, 0), d -> d.count(0), d -> d.refusal(0, 0),
            d -> d.soonest(0, 0), d -> d.lacking(0, 0), d -> d.best(0), d -> d.cost(1, 1), d -> d.ifHurt(0, 1),
            d -> (long) d.shotShare(), StuntDesk::digest};
        for (DeskCall call : others) {
            StuntDesk desk = deskInUse();
            call.answer(desk);
            due("a call that is not undoable saves nothing", desk.count(10), 5);
        }
        for (String text : new String[] {"+1", "3r24;3r24;3r24;3r24", "!00", "!11", "!97;+1"}) {
            StuntDesk desk = deskInUse();
            desk.clearBuffer();
            play(desk, text);
            due("a plan is one more", desk.count(10), 6);
            desk.undo();
            dueAlike("an undone plan", type(desk, "0r"), deskInUse());
        }
    }

    static void whatIsCountedSoFarIsSavedToo() {
        sentence("Terms, undo", "all, also what is counted so far, but the buffer and the saved states.");
        StuntDesk desk = new StuntDesk();
        desk.rehearse(0, 0, 1);
        desk.rehearse(0, 0, 1);
        desk.rehearse(0, 0, 1);
        type(desk, "+1");
        due("hurt by the fourth", desk.rehearse(0, 0, 1), 0);
        type(desk, ";");
        due("undone", desk.undo(), 3);
        due("injuries so far", desk.count(7), 0);
        due("rehearsals so far", desk.count(8), 3);
        due("rehearsals today", desk.person(0, 3), 3);
        due("the buffer is as it was typed", desk.clearBuffer(), 3);
        due("the fourth again", desk.rehearse(0, 0, 1), 0);
        due("saved states", desk.count(10), 4);
        due("not those that there were then", desk.undo() * 100 + desk.undo() * 10 + desk.undo(), 321);
    }

    static void atMost6StatesAreSaved() {
        sentence("Terms, undo", "At most 6 states are saved; the oldest one is dropped first.");
        for (int calls = 0; calls <= 25; calls++) {
            StuntDesk desk = new StuntDesk();
            for (int i = 0; i < calls; i++) {
                desk.size(i % 8, 150 + i);
                due("saved", desk.count(10), Math.min(i + 1, 6));
            }
            int saved = Math.min(calls, 6);
            for (int undone = 1; undone <= saved; undone++) {
                due("left", desk.undo(), saved - undone);
                due("as before the call " + (calls - undone), desk.person((calls - undone) % 8, 0),
                        calls - undone < 8 ? 170 : 150 + calls - undone - 8);
            }
            due("no more", thrownBy(desk::undo), STATE);
            due("the state stays", desk.count(10), 0);
        }
        StuntDesk mixed = new StuntDesk();
        for (int round = 0; round < 9; round++) {
            int day = mixed.count(0);
            for (int i = 0; i < 5; i++) {
                mixed.pass(1);
            }
            for (int i = 4; i > 0; i--) {
                mixed.undo();
                due("the day in the round " + round, mixed.count(0), day + i);
            }
        }
        due("saved in the end", mixed.count(10), 2);
    }

    // ---- Exceptions

    static void aCallThatThrowsChangesNothing() {
        sentence("Terms, exceptions", "A call that throws an exception changes nothing.");
        Maker used = TermsBoundaryTest::deskInUse;
        refuses(used, "size", INDEX, d -> d.size(8, 160));
        refuses(used, "size", ARGUMENT, d -> d.size(0, 201));
        refuses(used, "pass", ARGUMENT, d -> d.pass(0));
        refuses(used, "rehearse", INDEX, d -> d.rehearse(0, 6, 1));
        refuses(used, "rehearse", ARGUMENT, d -> d.rehearse(0, 0, 6));
        refuses(used, "rehearse", STATE, d -> d.rehearse(2, 1, 1));
        refuses(used, "hurt", INDEX, d -> d.hurt(8, 1, 1));
        refuses(used, "hurt", ARGUMENT, d -> d.hurt(0, 1, 61));
        refuses(used, "insure", ARGUMENT, d -> d.insure(1, 61));
        refuses(used, "scene", INDEX, d -> d.scene(6, 1, 0));
        refuses(used, "scene", ARGUMENT, d -> d.scene(0, 6, 0));
        refuses(used, "shoot", INDEX, d -> d.shoot(2, 0));
        refuses(used, "shoot", STATE, d -> d.shoot(1, 0));
        refuses(used, "append", ARGUMENT, d -> d.append(127));
        refuses(used, "play", ARGUMENT, StuntDesk::play);
        refuses(StuntDesk::new, "undo", STATE, StuntDesk::undo);
        refuses(() -> deskOnDay(990), "pass", STATE, d -> d.pass(10));
        refuses(TermsBoundaryTest::deskWithAllFull, "append", STATE, d -> d.append('0'));
        refuses(TermsBoundaryTest::deskWithAllFull, "play", ARGUMENT, StuntDesk::play);
        refuses(TermsBoundaryTest::deskWithAllFull, "scene", STATE, d -> d.scene(0, 1, 0));
        refuses(TermsBoundaryTest::deskWithAllFull, "insure", STATE, d -> d.insure(5, 60));
        refuses(TermsBoundaryTest::deskWithAllFull, "rehearse", STATE, d -> d.rehearse(7, 2, 1));
        refuses(TermsBoundaryTest::deskWithAllFull, "shoot", STATE, d -> d.shoot(0, 0));
        StuntDesk refused = deskWithAllFull();
        due("refused", thrownBy(() -> refused.rehearse(7, 2, 1)), STATE);
        due("no rehearsal is dropped", refused.rehearsed(0, 4, 1), 4);
        due("no injury is dropped", refused.person(0, 1), 1);
    }

    /** Forty rehearsals, twelve injuries, ten scenes, sixty characters, six saved states, and 500 in the purse. */
    private static StuntDesk deskWithAllFull() {
        StuntDesk desk = deskWithRehearsals(40);
        desk.insure(5, 60);
        desk.hurt(0, 1, 60);
        for (int i = 0; i < 11; i++) {
            desk.hurt(7, PARTS[i % 6], 60);
        }
        for (int i = 0; i < 10; i++) {
            desk.scene(i % 6, 1 + i % 5, i % 8);
        }
        return type(desk, "+1;".repeat(20));
    }

    static void looksChangeNothing() {
        sentence("Terms, exceptions", "the interface says: ---- looks; nothing is changed.");
        DeskCall[] looks = {d -> d.person(2, 6), d -> d.rehearsed(0, 0, 1), d -> d.kind(0, 1, 0), d -> d.sceneOf(0, 5),
            d -> d.count(9), d -> d.refusal(0, 0)};
        changesNothing(looks);
        sentence("Terms, exceptions", "the interface says: ---- what would be; nothing is changed.");
        DeskCall[] wouldBe = {d -> d.soonest(0, 0), d -> d.lacking(0, 0), d -> d.best(0), d -> d.cost(5, 60),
            d -> d.ifHurt(0, 1), d -> (long) d.shotShare(), StuntDesk::digest, StuntDesk::firstError};
        changesNothing(wouldBe);
    }

    private static void changesNothing(DeskCall[] looks) {
        for (DeskCall look : looks) {
            for (Maker maker : new Maker[] {TermsBoundaryTest::deskInUse, TermsBoundaryTest::deskWithAllFull}) {
                StuntDesk asked = maker.make();
                look.answer(asked);
                dueAlike("asked", asked, maker.make());
            }
        }
    }

    static void theExceptionThatIsNamedFirst() {
        sentence("Terms, exceptions", "If several exceptions apply, the one that is named first in the throws clause"
                + " is thrown.");
        Maker full = TermsBoundaryTest::deskWithAllFull;
        refuses(full, "size: person, size", INDEX, d -> d.size(-1, 149));
        refuses(() -> deskOnDay(950), "pass: days, behind 999", ARGUMENT, d -> d.pass(100));
        refuses(full, "rehearse: person, risk", INDEX, d -> d.rehearse(8, 0, 0));
        refuses(full, "rehearse: kind, risk", INDEX, d -> d.rehearse(7, 6, 6));
        refuses(full, "rehearse: person, kind, risk", INDEX, d -> d.rehearse(8, 6, 6));
        refuses(full, "rehearse: kind, of someone who is hurt all over", INDEX, d -> d.rehearse(7, -1, 1));
        refuses(full, "rehearse: risk, barred", ARGUMENT, d -> d.rehearse(7, 2, 6));
        refuses(full, "hurt: person, part", INDEX, d -> d.hurt(8, 3, 1));
        refuses(full, "hurt: person, days", INDEX, d -> d.hurt(8, 1, 0));
        refuses(full, "hurt: person, part, days", INDEX, d -> d.hurt(-1, 0, 61));
        refuses(full, "insure: step, purse", ARGUMENT, d -> d.insure(6, 60));
        refuses(full, "insure: days, purse", ARGUMENT, d -> d.insure(5, 61));
        refuses(full, "scene: kind, risk", INDEX, d -> d.scene(6, 0, 0));
        refuses(full, "scene: person, risk", INDEX, d -> d.scene(0, 6, 8));
        refuses(full, "scene: kind, too many", INDEX, d -> d.scene(-1, 1, 0));
        refuses(full, "scene: person, too many", INDEX, d -> d.scene(0, 1, -1));
        refuses(full, "scene: risk, too many", ARGUMENT, d -> d.scene(0, 0, 0));
        refuses(full, "scene: kind, person, risk, too many", INDEX, d -> d.scene(6, 6, 8));
        refuses(full, "shoot: scene, refused", INDEX, d -> d.shoot(10, 7));
        refuses(full, "shoot: person, refused", INDEX, d -> d.shoot(0, 8));
        refuses(full, "append: code, full", ARGUMENT, d -> d.append(32));
        refuses(full, "person: person, what", INDEX, d -> d.person(8, 7));
        refuses(full, "rehearsed: person, risk", INDEX, d -> d.rehearsed(8, 0, 6));
        refuses(full, "rehearsed: kind, risk", INDEX, d -> d.rehearsed(0, 6, 0));
        refuses(full, "kind: kind, risk", INDEX, d -> d.kind(6, 0, 0));
        refuses(full, "kind: kind, what", INDEX, d -> d.kind(-1, 1, 3));
        refuses(full, "sceneOf: scene, what", INDEX, d -> d.sceneOf(10, 6));
        refuses(full, "ifHurt: person, part", INDEX, d -> d.ifHurt(-1, 3));
    }
}
