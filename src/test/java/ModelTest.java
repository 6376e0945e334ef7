import java.util.ArrayDeque;
import java.util.ArrayList;
import java.util.Arrays;
import java.util.List;
import java.util.function.ToLongFunction;
import java.util.regex.Pattern;
import java.util.stream.IntStream;

/**
 * Compares runs of calls with a model that holds all that was ever done and finds each answer by going through it:
 * it drops nothing, and undoes by replaying, so that it can share no fault of rows that are copied or dropped.
 */
public final class ModelTest {
    private static final int RUNS = 400;
    // And the digest in the end: nothing is promised of an object behind its 512th call.
    private static final int CALLS = 511;
    private static final long THROWS_INDEX = Long.MIN_VALUE + 1;
    private static final long THROWS_ARGUMENT = Long.MIN_VALUE + 2;
    private static final long THROWS_STATE = Long.MIN_VALUE + 3;

    private record Rehearsal(int person, int kind, int risk, int day, boolean counts) { }

    private record Injury(int person, int part, int from, int days) {
        boolean isInForce(int day) {
            return day >= from && day <= from + days - 1;
        }
    }

    private record Insurance(int step, int from, int days) { }

    private record Scene(int kind, int risk, int seen) { }

    private record Shot(int scene, int person, int day) { }

    private record Step(String name, int[] arguments, String text) { }

    private static final class Refused extends RuntimeException {
        private static final long serialVersionUID = 1L;
        final long answer;

        Refused(long answer) {
            super(null, null, false, false);
            this.answer = answer;
        }
    }

    private static final class Model {
        static final int[] DAYS = {20, 15, 10, 12, 30, 25};
        static final int[] TIRED = {1, 4, 16, 16, 4, 1};
        static final int[][] BARS = {{1, 2}, {4, 8, 16}, {1, 2, 4, 8, 16, 32}, {16, 32}, {32}, {32, 1, 2}};
        static final Pattern PLAN = Pattern.compile("[0-7]r[0-5][1-5]|\\+[1-9][0-9]?|![0-9][0-7]");

        final List<Step> steps = new ArrayList<>();
        final List<Rehearsal> rehearsals = new ArrayList<>();
        final List<Injury> injuries = new ArrayList<>();
        final List<Insurance> insurances = new ArrayList<>();
        final List<Scene> scenes = new ArrayList<>();
        final List<Shot> shots = new ArrayList<>();
        int[] sizes = new int[8];
        int day;
        int paid;
        int undoable;
        String buffer = "";

        Model() {
            restart();
        }

        void restart() {
            for (List<?> list : List.of(rehearsals, injuries, insurances, scenes, shots)) {
                list.clear();
            }
            Arrays.fill(sizes, 170);
            day = 0;
            paid = 0;
        }

        static void index(int number, int end) {
            if (number < 0 || number >= end) {
                throw new Refused(THROWS_INDEX);
            }
        }

        static void argument(int number, int low, int high) {
            if (number < low || number > high) {
                throw new Refused(THROWS_ARGUMENT);
            }
        }

        static void part(int part) {
            if (!List.of(1, 2, 4, 8, 16, 32).contains(part)) {
                throw new Refused(THROWS_ARGUMENT);
            }
        }

        static void state(boolean right) {
            if (!right) {
                throw new Refused(THROWS_STATE);
            }
        }

        static int needs(int kind, int risk) {
            return List.of(risk, risk + 1, 2 * risk, risk + 2, risk / 2 + 1, risk).get(kind);
        }

        static boolean bars(int kind, int part) {
            return Arrays.stream(BARS[kind]).anyMatch(one -> one == part);
        }

        static <T> List<T> latest(List<T> list, int most) {
            return list.subList(Math.max(0, list.size() - most), list.size());
        }

        /** Does it, if it is possible; otherwise throws and changes nothing. */
        long act(Step step) {
            int[] a = step.arguments();
            switch (step.name()) {
                case "size": {
                    index(a[0], 8);
                    argument(a[1], 150, 200);
                    int previous = sizes[a[0]];
                    sizes[a[0]] = a[1];
                    return previous;
                }
                case "pass":
                    argument(a[0], 1, 99);
                    state(day + a[0] <= 999);
                    day += a[0];
                    return day;
                case "rehearse":
                    return rehearse(a[0], a[1], a[2]);
                case "hurt":
                    index(a[0], 8);
                    part(a[1]);
                    argument(a[2], 1, 60);
                    injuries.add(new Injury(a[0], a[1], day, a[2]));
                    return IntStream.range(0, scenes.size())
                            .filter(s -> !isShot(s) && barred(a[0], scenes.get(s).kind(), day)).count();
                case "insure": {
                    argument(a[0], 1, 5);
                    argument(a[1], 1, 60);
                    int cost = cost(a[0], a[1]);
                    state(paid + cost <= 2000);
                    paid += cost;
                    insurances.add(new Insurance(a[0], day, a[1]));
                    return 2000 - paid;
                }
                case "scene":
                    index(a[0], 6);
                    index(a[2], 8);
                    argument(a[1], 1, 5);
                    state(scenes.size() < 10);
                    scenes.add(new Scene(a[0], a[1], a[2]));
                    return scenes.size() - 1;
                case "shoot":
                    index(a[0], scenes.size());
                    index(a[1], 8);
                    state(refusal(a[0], a[1], day) == 0);
                    shots.add(new Shot(a[0], a[1], day));
                    return scenes.get(a[0]).seen() == a[1] ? 0 : 1;
                default:
                    return play(step.text());
            }
        }

        long rehearse(int person, int kind, int risk) {
            index(person, 8);
            index(kind, 6);
            argument(risk, 1, 5);
            state(!barred(person, kind, day));
            boolean tired = rehearsalsToday(person) >= 3;
            rehearsals.add(new Rehearsal(person, kind, risk, day, !tired));
            if (tired) {
                injuries.add(new Injury(person, TIRED[kind], day, 2 * risk));
            }
            return tired ? 0 : 1;
        }

        long play(String text) {
            String[] parts = text.split(";", -1);
            for (String part : parts) {
                if (!PLAN.matcher(part).matches()) {
                    throw new Refused(THROWS_ARGUMENT);
                }
            }
            for (int done = 0; done < parts.length; done++) {
                String part = parts[done];
                try {
                    if (part.charAt(0) == '+') {
                        act(new Step("pass", new int[] {Integer.parseInt(part.substring(1))}, ""));
                    } else if (part.charAt(0) == '!') {
                        act(new Step("shoot", new int[] {part.charAt(1) - '0', part.charAt(2) - '0'}, ""));
                    } else {
                        rehearse(part.charAt(0) - '0', part.charAt(2) - '0', part.charAt(3) - '0');
                    }
                } catch (Refused refused) {
                    return done;
                }
            }
            return parts.length;
        }

        long perform(Step step) {
            long answer = act(step);
            steps.add(step);
            undoable = Math.min(6, undoable + 1);
            return answer;
        }

        long undo() {
            state(undoable > 0);
            steps.remove(steps.size() - 1);
            undoable--;
            restart();
            steps.forEach(this::act);
            return undoable;
        }

        boolean isShot(int scene) {
            return shots.stream().anyMatch(shot -> shot.scene() == scene);
        }

        long rehearsalsToday(int person) {
            return rehearsals.stream().filter(r -> r.person() == person && r.day() == day).count();
        }

        boolean barred(int person, int kind, int on) {
            return latest(injuries, 12).stream().anyMatch(i -> i.person() == person && i.isInForce(on) && bars(kind, i.part()));
        }

        int cost(int step, int days) {
            int plain = days * step * step;
            return plain + Math.floorDiv(plain * injuries.size(), 10);
        }

        long counting(int person, int kind, int risk, int on) {
            List<Rehearsal> those = rehearsals.stream().filter(Rehearsal::counts).toList();
            return latest(those, 40).stream().filter(r -> r.person() == person && r.kind() == kind
                    && r.risk() >= risk - 1 && on - r.day() < DAYS[kind]).count();
        }

        int step(int on) {
            Insurance last = insurances.isEmpty() ? null : insurances.get(insurances.size() - 1);
            return last != null && on - last.from() < last.days() ? last.step() : 0;
        }

        int refusal(int scene, int person, int on) {
            Scene told = scenes.get(scene);
            if (isShot(scene)) {
                return 1;
            }
            if (person != told.seen() && Math.abs(sizes[person] - sizes[told.seen()]) > 5) {
                return 2;
            }
            if (step(on) < told.risk()) {
                return 3;
            }
            if (barred(person, told.kind(), on)) {
                return 4;
            }
            if (shots.stream().anyMatch(s -> s.person() == person && (s.day() == on || s.day() == on - 1))) {
                return 5;
            }
            return counting(person, told.kind(), told.risk(), on) < needs(told.kind(), told.risk()) ? 6 : 0;
        }

        int cleared(int scene) {
            return IntStream.range(0, 8).filter(p -> refusal(scene, p, day) == 0).map(p -> 1 << p).sum();
        }

        long person(int person, int what) {
            List<Injury> now = latest(injuries, 12).stream().filter(i -> i.person() == person && i.isInForce(day)).toList();
            List<Shot> own = shots.stream().filter(s -> s.person() == person).toList();
            switch (what) {
                case 0: return sizes[person];
                case 1: return now.stream().mapToInt(Injury::part).distinct().sum();
                case 2: return now.stream().mapToInt(i -> i.from() + i.days() - 1).max().orElse(-1);
                case 3: return rehearsalsToday(person);
                case 4: return own.stream().mapToInt(Shot::day).max().orElse(-1);
                case 5: return own.size();
                default: return IntStream.range(0, 6).filter(k -> barred(person, k, day)).map(k -> 1 << k).sum();
            }
        }

        long sceneOf(int scene, int what) {
            Scene told = scenes.get(scene);
            int[] shot = {-1, -1};
            shots.stream().filter(s -> s.scene() == scene).forEach(s -> {
                shot[0] = s.day();
                shot[1] = s.person();
            });
            return new int[] {told.kind(), told.risk(), told.seen(), shot[0], shot[1],
                what == 5 ? cleared(scene) : 0}[what];
        }

        long count(int what) {
            switch (what) {
                case 0: return day;
                case 1: return 2000 - paid;
                case 2: return step(day);
                case 3: {
                    Insurance last = insurances.isEmpty() ? null : insurances.get(insurances.size() - 1);
                    return step(day) > 0 ? last.from() + last.days() - 1 : -1;
                }
                case 4: return scenes.size();
                case 5: return shots.size();
                case 6: return shots.stream().filter(s -> scenes.get(s.scene()).seen() != s.person()).count();
                case 7: return injuries.size();
                case 8: return rehearsals.size();
                case 9: return IntStream.range(0, scenes.size()).filter(s -> cleared(s) != 0).count();
                default: return undoable;
            }
        }

        long soonest(int scene, int person) {
            return IntStream.rangeClosed(day, day + 60).filter(on -> refusal(scene, person, on) == 0)
                    .findFirst().orElse(-1);
        }

        long lacking(int scene, int person) {
            Scene told = scenes.get(scene);
            return Math.max(0, needs(told.kind(), told.risk()) - counting(person, told.kind(), told.risk(), day));
        }

        long best(int scene) {
            Scene told = scenes.get(scene);
            ToLongFunction<Integer> badness = p -> lacking(scene, p) * 1000
                    + (p == told.seen() ? -1 : Math.abs(sizes[p] - sizes[told.seen()])) * 10 + p;
            return isShot(scene) ? -1 : IntStream.range(0, 8).boxed()
                    .filter(p -> p == told.seen() || Math.abs(sizes[p] - sizes[told.seen()]) <= 5)
                    .filter(p -> !barred(p, told.kind(), day))
                    .min((p, q) -> Long.compare(badness.applyAsLong(p), badness.applyAsLong(q))).orElse(-1);
        }

        long ifHurt(int person, int part) {
            return IntStream.range(0, scenes.size()).filter(s -> cleared(s) != 0)
                    .filter(s -> IntStream.range(0, 8).filter(p -> refusal(s, p, day) == 0)
                            .allMatch(p -> p == person && bars(scenes.get(s).kind(), part))).count();
        }

        double shotShare() {
            return scenes.isEmpty() ? 1.0 : (double) shots.size() / (double) scenes.size();
        }

        /** Tried character by character: a text is right so far, if some way to go on makes it a whole plan. */
        int firstError() {
            for (int end = 1; end <= buffer.length(); end++) {
                String so = buffer.substring(0, end);
                if (List.of("", "0", "00", "1", "01", "r01", "+1", "+1;").stream().noneMatch(rest -> isPlan(so + rest))) {
                    return end - 1;
                }
            }
            return buffer.length();
        }

        static boolean isPlan(String text) {
            return Arrays.stream(text.split(";", -1)).allMatch(part -> PLAN.matcher(part).matches());
        }

        long digest() {
            List<Long> values = new ArrayList<>();
            IntStream.rangeClosed(0, 10).forEach(what -> values.add(count(what)));
            for (int p = 0; p < 8; p++) {
                int person = p;
                IntStream.rangeClosed(0, 6).forEach(what -> values.add(person(person, what)));
                IntStream.range(0, 6).forEach(kind -> values.add(counting(person, kind, 2, day)));
                values.add(ifHurt(person, 16));
            }
            for (int s = 0; s < scenes.size(); s++) {
                int scene = s;
                IntStream.rangeClosed(0, 5).forEach(what -> values.add(sceneOf(scene, what)));
                values.add(best(scene));
                for (int person = 0; person < 8; person++) {
                    values.addAll(List.of((long) refusal(scene, person, day), lacking(scene, person),
                            soonest(scene, person)));
                }
            }
            values.add((long) cost(3, 10));
            values.add(Double.doubleToLongBits(shotShare()));
            values.add((long) buffer.length());
            buffer.chars().forEach(code -> values.add((long) code));
            long hash = 3527;
            for (long value : values) {
                hash = 31 * hash + value;
            }
            return hash;
        }

        long answer(String name, int[] a) {
            switch (name) {
                case "append":
                    argument(a[0], 33, 126);
                    state(buffer.length() < 60);
                    buffer += (char) a[0];
                    return buffer.length();
                case "clearBuffer": {
                    int length = buffer.length();
                    buffer = "";
                    return length;
                }
                case "firstError": return firstError();
                case "play": {
                    long done = perform(new Step("play", a, buffer));
                    buffer = "";
                    return done;
                }
                case "undo": return undo();
                case "person":
                    index(a[0], 8);
                    argument(a[1], 0, 6);
                    return person(a[0], a[1]);
                case "rehearsed":
                    index(a[0], 8);
                    index(a[1], 6);
                    argument(a[2], 1, 5);
                    return counting(a[0], a[1], a[2], day);
                case "sceneOf":
                    index(a[0], scenes.size());
                    argument(a[1], 0, 5);
                    return sceneOf(a[0], a[1]);
                case "count":
                    argument(a[0], 0, 10);
                    return count(a[0]);
                case "refusal", "soonest", "lacking":
                    index(a[0], scenes.size());
                    index(a[1], 8);
                    return name.equals("refusal") ? refusal(a[0], a[1], day)
                            : name.equals("soonest") ? soonest(a[0], a[1]) : lacking(a[0], a[1]);
                case "best":
                    index(a[0], scenes.size());
                    return best(a[0]);
                case "cost":
                    argument(a[0], 1, 5);
                    argument(a[1], 1, 60);
                    return cost(a[0], a[1]);
                case "ifHurt":
                    index(a[0], 8);
                    part(a[1]);
                    return ifHurt(a[0], a[1]);
                case "shotShare": return Double.doubleToLongBits(shotShare());
                case "digest": return digest();
                default: return perform(new Step(name, a, ""));
            }
        }
    }

    private static long answerOf(StuntDesk desk, String name, int[] a) {
        switch (name) {
            case "size": return desk.size(a[0], a[1]);
            case "pass": return desk.pass(a[0]);
            case "rehearse": return desk.rehearse(a[0], a[1], a[2]);
            case "hurt": return desk.hurt(a[0], a[1], a[2]);
            case "insure": return desk.insure(a[0], a[1]);
            case "scene": return desk.scene(a[0], a[1], a[2]);
            case "shoot": return desk.shoot(a[0], a[1]);
            case "append": return desk.append(a[0]);
            case "clearBuffer": return desk.clearBuffer();
            case "firstError": return desk.firstError();
            case "play": return desk.play();
            case "undo": return desk.undo();
            case "person": return desk.person(a[0], a[1]);
            case "rehearsed": return desk.rehearsed(a[0], a[1], a[2]);
            case "sceneOf": return desk.sceneOf(a[0], a[1]);
            case "count": return desk.count(a[0]);
            case "refusal": return desk.refusal(a[0], a[1]);
            case "soonest": return desk.soonest(a[0], a[1]);
            case "lacking": return desk.lacking(a[0], a[1]);
            case "best": return desk.best(a[0]);
            case "cost": return desk.cost(a[0], a[1]);
            case "ifHurt": return desk.ifHurt(a[0], a[1]);
            case "shotShare": return Double.doubleToLongBits(desk.shotShare());
            default: return desk.digest();
        }
    }

    private static long guarded(ToLongFunction<int[]> call, int[] arguments) {
        try {
            return call.applyAsLong(arguments);
        } catch (Refused refused) {
            return refused.answer;
        } catch (RuntimeException e) {
            return e.getClass() == IndexOutOfBoundsException.class ? THROWS_INDEX
                    : e.getClass() == IllegalArgumentException.class ? THROWS_ARGUMENT
                    : e.getClass() == IllegalStateException.class ? THROWS_STATE : Long.MIN_VALUE;
        }
    }

    /** The same numbers in each run of the test. */
    private static final class Numbers {
        long seed;

        Numbers(long seed) {
            this.seed = seed;
        }

        int below(int end) {
            seed = seed * 6364136223846793005L + 1442695040888963407L;
            return (int) Math.floorMod(seed >>> 33, (long) end);
        }

        boolean oneIn(int many) {
            return below(many) == 0;
        }

        /** Mostly from low to high, seldom out of it. */
        int from(int low, int high) {
            if (oneIn(40)) {
                return new int[] {low - 1, high + 1, -1, Integer.MIN_VALUE, Integer.MAX_VALUE}[below(5)];
            }
            return low + below(high - low + 1);
        }

        int part() {
            return oneIn(30) ? below(70) - 3 : 1 << below(6);
        }
    }

    private static final ArrayDeque<Integer> TYPED = new ArrayDeque<>();
    private static final int[] SEEN = new int[8];
    private static int wrong = 0;

    private static String planPart(Numbers n, int people, int kinds) {
        switch (n.below(9)) {
            case 0, 1, 2, 3: return n.below(people) + "r" + n.below(kinds) + (1 + n.below(5));
            case 4: return "+" + (1 + n.below(n.oneIn(6) ? 99 : 3));
            default: return "!" + n.below(10) + n.below(people);
        }
    }

    private static void typePlan(Numbers n, int people, int kinds) {
        StringBuilder plan = new StringBuilder(planPart(n, people, kinds));
        for (int more = n.below(5); more > 0; more--) {
            plan.append(';').append(planPart(n, people, kinds));
        }
        if (n.oneIn(3)) {
            String codes = ";+!r0123456789;;+!~";
            plan.setCharAt(n.below(plan.length()), codes.charAt(n.below(codes.length())));
        }
        if (n.oneIn(4)) {
            plan.setLength(n.below(plan.length()) + 1);
        }
        plan.chars().forEach(TYPED::add);
    }

    private static void run(int number) {
        Numbers n = new Numbers(number * 7919L + 17);
        StuntDesk desk = new StuntDesk();
        Model model = new Model();
        TYPED.clear();
        int people = 2 + n.below(7);
        int kinds = 1 + n.below(6);
        int harm = 2 + n.below(8);
        int haste = n.oneIn(4) ? 2 : 12;
        String[] looks = {"person", "rehearsed", "sceneOf", "count", "refusal", "soonest", "lacking", "best", "cost",
            "ifHurt", "shotShare", "digest", "firstError"};
        for (int i = 0; i < CALLS; i++) {
            String name;
            int[] a = {};
            if (!TYPED.isEmpty()) {
                name = "append";
                a = new int[] {TYPED.poll()};
                if (TYPED.isEmpty()) {
                    TYPED.add(-1);
                }
                if (a[0] == -1) {
                    TYPED.clear();
                    name = n.oneIn(5) ? "firstError" : n.oneIn(12) ? "clearBuffer" : "play";
                }
            } else {
                int roll = n.below(100);
                if (roll < 4) {
                    name = "size";
                    a = new int[] {n.from(0, people - 1), n.from(162, 178)};
                } else if (roll < 12) {
                    name = "pass";
                    a = new int[] {n.from(1, n.oneIn(haste) ? 99 : 3)};
                } else if (roll < 40) {
                    name = "rehearse";
                    a = new int[] {n.from(0, people - 1), n.from(0, kinds - 1), n.from(1, 5)};
                } else if (roll < 40 + harm) {
                    name = "hurt";
                    a = new int[] {n.from(0, people - 1), n.part(), n.from(1, n.oneIn(5) ? 60 : 6)};
                } else if (roll < 54) {
                    name = "insure";
                    a = new int[] {n.from(1, 5), n.from(1, n.oneIn(4) ? 60 : 5)};
                } else if (roll < 60) {
                    name = "scene";
                    a = new int[] {n.from(0, kinds - 1), n.from(1, n.oneIn(3) ? 5 : 2), n.from(0, people - 1)};
                } else if (roll < 68) {
                    name = "shoot";
                    a = new int[] {n.from(0, Math.max(0, model.scenes.size() - 1)), n.from(0, people - 1)};
                } else if (roll < 70) {
                    name = "append";
                    a = new int[] {n.from(33, 126)};
                } else if (roll < 73) {
                    name = "clearBuffer";
                    typePlan(n, people, kinds);
                } else if (roll < 80) {
                    name = "undo";
                } else {
                    name = looks[n.below(looks.length)];
                    a = lookArguments(n, name, model);
                }
            }
            compare(number, i, name, a, desk, model);
        }
        compare(number, CALLS, "digest", new int[0], desk, model);
    }

    private static int[] lookArguments(Numbers n, String name, Model model) {
        int scene = n.from(0, Math.max(0, model.scenes.size() - 1));
        switch (name) {
            case "person": return new int[] {n.from(0, 7), n.from(0, 6)};
            case "rehearsed": return new int[] {n.from(0, 7), n.from(0, 5), n.from(1, 5)};
            case "sceneOf": return new int[] {scene, n.from(0, 5)};
            case "count": return new int[] {n.from(0, 10)};
            case "cost": return new int[] {n.from(1, 5), n.from(1, 60)};
            case "ifHurt": return new int[] {n.from(0, 7), n.part()};
            default: return new int[] {scene, n.from(0, 7)};
        }
    }

    private static void compare(int run, int call, String name, int[] a, StuntDesk desk, Model model) {
        long got = guarded(b -> answerOf(desk, name, b), a);
        long want = guarded(b -> model.answer(name, b), a);
        if (got != want) {
            wrong++;
            if (wrong < 20) {
                System.out.println("run " + run + ", call " + call + ": " + name + Arrays.toString(a) + " answered " + got
                        + ", the model " + want);
            }
        }
        noteWhatWasSeen(name, got, a);
    }

    /** The runs are worth something only if the rare things happen in them too. */
    private static void noteWhatWasSeen(String name, long got, int[] a) {
        SEEN[0] += name.equals("shoot") && got == 0 ? 1 : 0;
        SEEN[1] += name.equals("shoot") && got == 1 ? 1 : 0;
        SEEN[2] += name.equals("play") && got > 2 ? 1 : 0;
        SEEN[3] += name.equals("ifHurt") && got > 0 ? 1 : 0;
        SEEN[4] += name.equals("rehearse") && got == 0 ? 1 : 0;
        SEEN[5] += name.equals("soonest") && got > 0 ? 1 : 0;
        SEEN[6] += name.equals("best") && got > 0 ? 1 : 0;
        SEEN[7] += name.equals("pass") && got == THROWS_STATE ? 1 : 0;
    }

    public static void main(String[] args) {
        for (int run = 0; run < RUNS; run++) {
            run(run);
        }
        System.out.println("seen: " + Arrays.toString(SEEN));
        if (Arrays.stream(SEEN).anyMatch(times -> times < 10)) {
            wrong++;
            System.out.println("too little happens in the runs");
        }
        System.out.println(wrong == 0 ? "the class and the model agree" : wrong + " answers differ");
        if (wrong != 0) {
            System.exit(1);
        }
    }
}
