import java.math.BigInteger;
import java.util.ArrayList;
import java.util.Arrays;
import java.util.Comparator;
import java.util.HashMap;
import java.util.HashSet;
import java.util.List;
import java.util.Map;
import java.util.NoSuchElementException;
import java.util.Set;
import java.util.TreeSet;

/** The document told a second time, with the Java library and without care for speed, to compare with. */
public final class Model {
    private record Skill(int guess, int slip, int gain, Set<Integer> needs) {
    }

    private record Pair(int learner, int skill) {
    }

    private record Found(List<Integer> equation, Set<Integer> broken) {
    }

    private static final class Pupil {
        final List<List<Integer>> made = new ArrayList<>();
        List<Integer> equation;
        int skill;
        int wrongSteps;
        int hints;
        List<Integer> wrongFrom;
        List<Integer> wrongTo;
    }

    private final List<Skill> skills = new ArrayList<>();
    private final List<Pupil> pupils = new ArrayList<>();
    private final Set<Pair> opened = new HashSet<>();
    private final Map<Pair, Integer> told = new HashMap<>();
    private final Map<Pair, List<Boolean>> known = new HashMap<>();
    private final Map<Pair, List<Boolean>> everAnswered = new HashMap<>();
    private final Map<Pair, Integer> dueDays = new HashMap<>();
    private int today = 0;

    private static void require(boolean holds, RuntimeException otherwise) {
        if (!holds) {
            throw otherwise;
        }
    }

    private void requireSkill(int skill) {
        require(skill >= 0 && skill < skills.size(), new IndexOutOfBoundsException());
    }

    private void requireLearner(int learner) {
        require(learner >= 0 && learner < pupils.size(), new IndexOutOfBoundsException());
    }

    private Pair pair(int learner, int skill) {
        requireLearner(learner);
        requireSkill(skill);
        return new Pair(learner, skill);
    }

    private Pupil working(int learner) {
        require(pupils.get(learner).equation != null, new IllegalStateException());
        return pupils.get(learner);
    }

    public int addSkill(int guess, int slip, int gain) {
        for (int each : new int[] {guess, slip, gain}) {
            require(each >= 0 && each <= 500, new IllegalArgumentException());
        }
        require(skills.size() < 10, new IllegalStateException());
        skills.add(new Skill(guess, slip, gain, new TreeSet<>()));
        return skills.size() - 1;
    }

    public boolean addNeed(int skill, int needed) {
        requireSkill(skill);
        requireSkill(needed);
        require(!reaches(needed, skill), new IllegalArgumentException());
        return skills.get(skill).needs().add(needed);
    }

    private boolean reaches(int from, int to) {
        return from == to || skills.get(from).needs().stream().anyMatch(next -> reaches(next, to));
    }

    public int addLearner() {
        require(pupils.size() < 4, new IllegalStateException());
        pupils.add(new Pupil());
        return pupils.size() - 1;
    }

    public boolean open(int learner, int skill) {
        boolean was = isOpen(learner, skill);
        opened.add(pair(learner, skill));
        return !was;
    }

    public boolean isOpen(int learner, int skill) {
        return opened.contains(pair(learner, skill))
                || skills.get(skill).needs().stream().allMatch(need -> odds(learner, need) >= 700);
    }

    public int setOdds(int learner, int skill, int odds) {
        Pair pair = pair(learner, skill);
        require(odds >= 0 && odds <= 1000, new IllegalArgumentException());
        int before = odds(learner, skill);
        told.put(pair, odds);
        known.remove(pair);
        return before;
    }

    public int answer(int learner, int skill, boolean isRight) {
        require(isOpen(learner, skill), new IllegalStateException());
        note(pair(learner, skill), isRight);
        return odds(learner, skill);
    }

    private void note(Pair pair, boolean isRight) {
        known.computeIfAbsent(pair, p -> new ArrayList<>()).add(isRight);
        List<Boolean> all = everAnswered.computeIfAbsent(pair, p -> new ArrayList<>());
        all.add(isRight);
        int row = all.size() - 1 - all.lastIndexOf(false);
        int day = today + 1;
        if (row > 0) {
            day = today + (int) Math.min(16, Math.pow(2, row - 1));
        }
        dueDays.remove(pair);
        while (countDue(pair.learner(), day) >= 2) {
            day++;
        }
        dueDays.put(pair, day);
    }

    private long countDue(int learner, int day) {
        return dueDays.keySet().stream().filter(p -> p.learner() == learner && dueDays.get(p) == day).count();
    }

    public int odds(int learner, int skill) {
        Pair pair = pair(learner, skill);
        Skill of = skills.get(skill);
        int p = told.getOrDefault(pair, 200);
        for (boolean isRight : known.getOrDefault(pair, List.of())) {
            long yes = isRight ? 1000 - of.slip() : of.slip();
            long no = isRight ? of.guess() : 1000 - of.guess();
            BigInteger sum = BigInteger.valueOf(p * yes + (1000 - p) * no);
            if (sum.signum() != 0) {
                p = BigInteger.valueOf(p).multiply(BigInteger.valueOf(yes * 1000)).divide(sum).intValueExact();
            }
            p += (1000 - p) * of.gain() / 1000;
        }
        return p;
    }

    public int oddsAnew(int learner, int skill) {
        return odds(learner, skill);
    }

    public int answers(int learner, int skill) {
        return known.getOrDefault(pair(learner, skill), List.of()).size();
    }

    public int nextDay() {
        require(today < 200, new ArithmeticException());
        return ++today;
    }

    public int due(int learner, int skill) {
        Integer day = dueDays.get(pair(learner, skill));
        require(day != null, new NoSuchElementException());
        return day;
    }

    private List<Integer> dueSkills(int learner) {
        requireLearner(learner);
        List<Pair> pairs = new ArrayList<>();
        for (Pair pair : dueDays.keySet()) {
            if (pair.learner() == learner && dueDays.get(pair) <= today) {
                pairs.add(pair);
            }
        }
        pairs.sort(Comparator.comparing((Pair pair) -> dueDays.get(pair)).thenComparing(Pair::skill));
        return pairs.stream().map(Pair::skill).toList();
    }

    public int reviews(int learner) {
        return dueSkills(learner).size();
    }

    public int reviewAt(int learner, int index) {
        List<Integer> all = dueSkills(learner);
        require(index >= 0 && index < all.size(), new NoSuchElementException());
        return all.get(index);
    }

    public int choose(int learner) {
        for (int skill : dueSkills(learner)) {
            if (isOpen(learner, skill)) {
                return skill;
            }
        }
        List<Integer> fresh = new ArrayList<>();
        for (int skill = 0; skill < skills.size(); skill++) {
            if (!everAnswered.containsKey(pair(learner, skill)) && isOpen(learner, skill)) {
                fresh.add(skill);
            }
        }
        require(!fresh.isEmpty(), new NoSuchElementException());
        fresh.sort(Comparator.comparing((Integer s) -> -(1000 - odds(learner, s)) * skills.get(s).gain())
                .thenComparing(s -> s));
        return fresh.get(0);
    }

    private static List<Integer> equation(int number) {
        int a = 2 + number % 7;
        int c = number / 7 % 2;
        int x = number / 14 % 10 - 4;
        int b = number / 140 % 9 - 4;
        return List.of(a, b, c, a * x + b - c * x);
    }

    public int make(int learner, int skill, int number) {
        pair(learner, skill);
        require(number >= 0 && number < 1260, new IllegalArgumentException());
        require(isOpen(learner, skill), new IllegalStateException());
        Pupil pupil = pupils.get(learner);
        List<List<Integer>> last = pupil.made.subList(Math.max(0, pupil.made.size() - 3), pupil.made.size());
        int taken = number;
        while (last.contains(equation(taken))) {
            taken++;
        }
        pupil.equation = equation(taken);
        pupil.made.add(pupil.equation);
        pupil.skill = skill;
        pupil.wrongSteps = 0;
        pupil.hints = 0;
        return taken % 1260;
    }

    public int part(int learner, char which) {
        requireLearner(learner);
        require("abcd".indexOf(which) >= 0, new IllegalArgumentException());
        return working(learner).equation.get(which - 'a');
    }

    /** The solutions as a text: none, all, or the one as a fraction in its lowest terms. */
    private static String solutions(List<Integer> e) {
        BigInteger factor = BigInteger.valueOf(e.get(0) - e.get(2));
        BigInteger rest = BigInteger.valueOf(e.get(3) - e.get(1));
        if (factor.signum() == 0) {
            return rest.signum() == 0 ? "all" : "none";
        }
        BigInteger common = factor.gcd(rest).multiply(BigInteger.valueOf(factor.signum()));
        return rest.divide(common) + "/" + factor.divide(common);
    }

    public char step(int learner, int a, int b, int c, int d) {
        requireLearner(learner);
        List<Integer> next = List.of(a, b, c, d);
        for (int each : next) {
            require(each >= -9999 && each <= 9999, new IllegalArgumentException());
        }
        Pupil pupil = working(learner);
        if (!solutions(next).equals(solutions(pupil.equation))) {
            pupil.wrongSteps++;
            pupil.wrongFrom = pupil.equation;
            pupil.wrongTo = next;
            return 'w';
        }
        pupil.equation = next;
        if (!next.subList(0, 3).equals(List.of(1, 0, 0))) {
            return 'f';
        }
        pupil.equation = null;
        note(pair(learner, pupil.skill), pupil.wrongSteps == 0 && pupil.hints == 0);
        return 's';
    }

    static List<Integer> byRight(int rule, List<Integer> e) {
        int a = e.get(0);
        int b = e.get(1);
        int c = e.get(2);
        int d = e.get(3);
        return switch (rule) {
            case 0 -> List.of(a, 0, c, d - b);
            case 1 -> List.of(a - c, b, 0, d);
            case 2 -> List.of(c, d, a, b);
            case 3 -> List.of(-a, -b, -c, -d);
            default -> canDivide(e) ? List.of(1, 0, 0, d / a) : e;
        };
    }

    static List<Integer> byBroken(int rule, List<Integer> e) {
        int a = e.get(0);
        int b = e.get(1);
        int c = e.get(2);
        int d = e.get(3);
        return switch (rule) {
            case 0 -> List.of(a, 0, c, d + b);
            case 1 -> List.of(a + c, b, 0, d);
            case 2 -> byRight(2, e);
            case 3 -> List.of(-a, -b, c, d);
            default -> canDivide(e) ? List.of(1, 0, 0, d) : e;
        };
    }

    private static boolean canDivide(List<Integer> e) {
        return e.get(1) == 0 && e.get(2) == 0 && e.get(0) != 0 && e.get(3) % e.get(0) == 0;
    }

    public int explain(int learner) {
        requireLearner(learner);
        Pupil pupil = pupils.get(learner);
        require(pupil.wrongTo != null, new IllegalStateException());
        Set<Found> found = new HashSet<>(Arrays.asList(new Found(pupil.wrongFrom, Set.of())));
        for (int length = 0; length < 3; length++) {
            for (Found each : List.copyOf(found)) {
                for (int rule = 0; rule < 5; rule++) {
                    List<Integer> right = byRight(rule, each.equation());
                    List<Integer> broken = byBroken(rule, each.equation());
                    found.add(new Found(right, each.broken()));
                    Set<Integer> more = new TreeSet<>(each.broken());
                    if (!broken.equals(right)) {
                        more.add(rule);
                    }
                    found.add(new Found(broken, more));
                }
            }
        }
        return found.stream().filter(each -> each.equation().equals(pupil.wrongTo)).map(Found::broken)
                .min(Comparator.comparing((Set<Integer> set) -> set.size()).thenComparing(Model::sum))
                .map(Model::sum).orElseThrow(NoSuchElementException::new);
    }

    private static int sum(Set<Integer> rules) {
        return rules.stream().mapToInt(rule -> 1 << rule).sum();
    }

    public int hint(int learner) {
        requireLearner(learner);
        Pupil pupil = working(learner);
        pupil.hints++;
        for (int rule : new int[] {1, 0, 4}) {
            if (!byRight(rule, pupil.equation).equals(pupil.equation)) {
                return rule;
            }
        }
        return 3;
    }

    public int faults(int learner) {
        requireLearner(learner);
        Pupil pupil = working(learner);
        return 10 * pupil.wrongSteps + pupil.hints;
    }

    private List<Integer> allOdds() {
        List<Integer> all = new ArrayList<>();
        for (int learner = 0; learner < pupils.size(); learner++) {
            for (int skill = 0; skill < skills.size(); skill++) {
                all.add(odds(learner, skill));
            }
        }
        return all;
    }

    public long checksum() {
        BigInteger sum = BigInteger.ZERO;
        for (int odds : allOdds()) {
            sum = sum.multiply(BigInteger.valueOf(31)).add(BigInteger.valueOf(odds));
        }
        return sum.longValue();
    }

    public float knownShare() {
        List<Integer> all = allOdds();
        require(!all.isEmpty(), new ArithmeticException());
        return (float) all.stream().filter(odds -> odds >= 700).count() / (float) all.size();
    }

    public double meanOdds(int skill) {
        requireSkill(skill);
        require(!pupils.isEmpty(), new ArithmeticException());
        double sum = 0;
        for (int learner = 0; learner < pupils.size(); learner++) {
            sum += odds(learner, skill);
        }
        return sum / pupils.size();
    }

    public boolean isSound() {
        return true;
    }

    /** The equation that a learner has, for the runs to be made: null if there is none. */
    List<Integer> equationOf(int learner) {
        return learner >= 0 && learner < pupils.size() ? pupils.get(learner).equation : null;
    }
}
