import java.util.ArrayList;
import java.util.Comparator;
import java.util.HashSet;
import java.util.List;
import java.util.NoSuchElementException;
import java.util.Set;
import java.util.stream.Collectors;
import java.util.stream.IntStream;

/** The document once more, by lists and sets, without any care for speed: what answers are due. */
final class Model {
  static final class Scene {
    int number, episode, minute, day, set, writer;
    boolean isCut;
    final Set<Integer> people = new HashSet<>();
    final Set<Integer> told = new HashSet<>();
    final Set<List<Integer>> kept = new HashSet<>();
  }

  record Act(Scene scene, int person, int fact) {}

  record Line(Scene scene, int person, int word) {}

  record Link(Scene first, Scene second) {}

  record Statement(Scene scene, int number, int fact, boolean isSo, boolean isPast) {}

  record Shift(Scene scene, int episode, int minute) {}

  static final class Question {
    Scene scene;
    int fact, due;
    boolean stays;
  }

  private final List<Boolean> people = new ArrayList<>();
  private final List<Integer> promised = new ArrayList<>();
  private final List<Set<Integer>> nevers = new ArrayList<>();
  private final List<Scene> scenes = new ArrayList<>();
  private final List<Act> acts = new ArrayList<>();
  private final List<Line> lines = new ArrayList<>();
  private final List<Link> links = new ArrayList<>();
  private final List<Scene> setUps = new ArrayList<>();
  private final List<Scene> payments = new ArrayList<>();
  private final List<Question> questions = new ArrayList<>();
  private final List<Statement> statements = new ArrayList<>();
  private final List<List<Shift>> branches = new ArrayList<>();
  private final List<Set<Integer>> votes = new ArrayList<>();
  private int facts, aired;
  private boolean strike;

  Model() {
    for (int i = 0; i < 6; i++) {
      branches.add(new ArrayList<>());
      votes.add(new HashSet<>());
    }
  }

  private static final Comparator<Scene> ORDER = Comparator.<Scene>comparingInt(s -> s.episode)
      .thenComparingInt(s -> s.minute).thenComparingInt(s -> s.number);

  private static boolean ahead(Scene a, Scene b) {
    return ORDER.compare(a, b) < 0;
  }

  private List<Scene> order() {
    return scenes.stream().filter(s -> !s.isCut).sorted(ORDER).collect(Collectors.toList());
  }

  private static void index(boolean... holds) {
    for (boolean hold : holds) if (!hold) throw new IndexOutOfBoundsException();
  }

  private static void range(boolean... holds) {
    for (boolean hold : holds) if (!hold) throw new IllegalArgumentException();
  }

  private static void may(boolean... holds) {
    for (boolean hold : holds) if (!hold) throw new IllegalStateException();
  }

  private static void can(boolean... holds) {
    for (boolean hold : holds) if (!hold) throw new UnsupportedOperationException();
  }

  private static boolean in(int number, int from, int to) {
    return from <= number && number <= to;
  }

  private boolean isScene(int n) { return in(n, 0, scenes.size() - 1); }
  private boolean isPerson(int n) { return in(n, 0, people.size() - 1); }
  private boolean isFact(int n) { return in(n, 0, facts - 1); }
  private boolean isOpen(int episode) { return episode >= aired; }

  public int person(boolean isChild) {
    may(people.size() < 8, !strike);
    people.add(isChild);
    promised.add(-1);
    nevers.add(new HashSet<>());
    return people.size() - 1;
  }

  public int fact() {
    may(facts < 24, !strike);
    return facts++;
  }

  public int scene(int episode, int minute, int day, int set, int writer) {
    range(in(episode, 0, 7), in(minute, 0, 59), in(day, 0, 999), in(set, 0, 9), in(writer, 0, 5));
    may(scenes.size() < 30, isOpen(episode), !strike);
    Scene s = new Scene();
    s.number = scenes.size();
    s.episode = episode;
    s.minute = minute;
    s.day = day;
    s.set = set;
    s.writer = writer;
    scenes.add(s);
    return s.number;
  }

  public int move(int scene, int episode, int minute) {
    index(isScene(scene));
    range(in(episode, 0, 7), in(minute, 0, 59));
    Scene s = scenes.get(scene);
    may(isOpen(s.episode), isOpen(episode), !strike);
    s.episode = episode;
    s.minute = minute;
    return order().indexOf(s);
  }

  public boolean setCut(int scene, boolean isCut) {
    index(isScene(scene));
    Scene s = scenes.get(scene);
    may(isOpen(s.episode), !strike);
    boolean was = s.isCut;
    s.isCut = isCut;
    return was;
  }

  public int sceneAt(int place) {
    index(in(place, 0, order().size() - 1));
    return order().get(place).number;
  }

  public int air() {
    may(aired < 8);
    return aired++;
  }

  public boolean strike(boolean isOn) {
    boolean was = strike;
    strike = isOn;
    return was;
  }

  public int goesBack() {
    List<Scene> o = order();
    return (int) IntStream.range(0, Math.max(0, o.size() - 1))
        .filter(i -> o.get(i).day > o.get(i + 1).day).count();
  }

  public boolean present(int scene, int person, boolean isPresent) {
    index(isScene(scene), isPerson(person));
    Scene s = scenes.get(scene);
    may(isOpen(s.episode), !strike);
    return isPresent ? !s.people.add(person) : s.people.remove(person);
  }

  public int tell(int scene, int fact) {
    index(isScene(scene), isFact(fact));
    Scene s = scenes.get(scene);
    may(isOpen(s.episode), !strike);
    s.told.add(fact);
    if (s.isCut) return 0;
    int count = 0;
    for (int p = 0; p < people.size(); p++) {
      int person = p;
      boolean before = order().stream().anyMatch(t -> ahead(t, s) && learns(t, person, fact));
      if (!before && learns(s, p, fact)) count++;
    }
    return count;
  }

  private static boolean learns(Scene s, int person, int fact) {
    return s.people.contains(person) && s.told.contains(fact)
        && !s.kept.contains(List.of(person, fact));
  }

  private boolean knowsIn(int person, int fact, Scene s) {
    return !s.isCut && order().stream().anyMatch(t -> !ahead(s, t) && learns(t, person, fact));
  }

  public boolean keep(int scene, int person, int fact, boolean isKept) {
    index(isScene(scene), isPerson(person), isFact(fact));
    Scene s = scenes.get(scene);
    may(isOpen(s.episode), !strike);
    List<Integer> key = List.of(person, fact);
    return isKept ? !s.kept.add(key) : s.kept.remove(key);
  }

  public boolean act(int scene, int person, int fact) {
    index(isScene(scene), isPerson(person), isFact(fact));
    Scene s = scenes.get(scene);
    may(isOpen(s.episode), !strike);
    can(s.people.contains(person), acts.size() < 60);
    acts.add(new Act(s, person, fact));
    return knowsIn(person, fact, s);
  }

  public boolean knows(int person, int fact, int scene) {
    index(isPerson(person), isFact(fact), isScene(scene));
    return knowsIn(person, fact, scenes.get(scene));
  }

  public int since(int person, int fact) {
    index(isPerson(person), isFact(fact));
    Scene first = order().stream().filter(s -> learns(s, person, fact)).findFirst().orElse(null);
    if (first == null) throw new NoSuchElementException();
    return first.number;
  }

  public int unknown() {
    return (int) acts.stream().filter(a -> !a.scene.isCut)
        .filter(a -> !a.scene.people.contains(a.person) || !knowsIn(a.person, a.fact, a.scene))
        .count();
  }

  public int knowers(int fact) {
    index(isFact(fact));
    return (int) IntStream.range(0, people.size())
        .filter(p -> order().stream().anyMatch(s -> learns(s, p, fact))).count();
  }

  public boolean cause(int first, int second) {
    index(isScene(first), isScene(second));
    range(first != second);
    Link link = new Link(scenes.get(first), scenes.get(second));
    may(isOpen(link.second.episode), !strike);
    can(!links.contains(link), links.size() < 60);
    links.add(link);
    return ahead(link.first, link.second);
  }

  private List<Link> uncutLinks() {
    return links.stream().filter(l -> !l.first.isCut && !l.second.isCut)
        .collect(Collectors.toList());
  }

  public int wrongCauses() {
    return (int) uncutLinks().stream().filter(l -> !ahead(l.first, l.second)).count();
  }

  private int[] depths() {
    int[] depths = new int[scenes.size()];
    for (Scene s : order()) {
      depths[s.number] = 1 + uncutLinks().stream()
          .filter(l -> l.second == s && ahead(l.first, s))
          .mapToInt(l -> depths[l.first.number]).max().orElse(0);
    }
    return depths;
  }

  public int depth(int scene) {
    index(isScene(scene));
    return depths()[scene];
  }

  public int setUp(int scene) {
    index(isScene(scene));
    may(isOpen(scenes.get(scene).episode), !strike);
    can(setUps.size() < 20);
    setUps.add(scenes.get(scene));
    payments.add(null);
    return setUps.size() - 1;
  }

  private boolean isPaid(int setUp) {
    List<Scene> o = order();
    int at = o.indexOf(setUps.get(setUp));
    return at >= 0 && o.indexOf(payments.get(setUp)) > at;
  }

  public boolean pay(int setUp, int scene) {
    index(in(setUp, 0, setUps.size() - 1), isScene(scene));
    Scene before = payments.get(setUp);
    may(isOpen(scenes.get(scene).episode), before == null || isOpen(before.episode), !strike);
    payments.set(setUp, scenes.get(scene));
    return isPaid(setUp);
  }

  private IntStream uncutSetUps() {
    return IntStream.range(0, setUps.size()).filter(i -> !setUps.get(i).isCut);
  }

  public int unpaid() {
    return (int) uncutSetUps().filter(i -> !isPaid(i)).count();
  }

  public int question(int scene, int fact, int due) {
    index(isScene(scene), isFact(fact));
    range(in(due, 0, 7));
    may(isOpen(scenes.get(scene).episode), !strike);
    can(questions.size() < 20);
    Question q = new Question();
    q.scene = scenes.get(scene);
    q.fact = fact;
    q.due = due;
    questions.add(q);
    return questions.size() - 1;
  }

  public boolean stay(int question, boolean isOpen) {
    index(in(question, 0, questions.size() - 1));
    may(!strike);
    boolean was = questions.get(question).stays;
    questions.get(question).stays = isOpen;
    return was;
  }

  public char questionIs(int question) {
    index(in(question, 0, questions.size() - 1));
    Question q = questions.get(question);
    if (q.scene.isCut) return '-';
    boolean isAnswered = order().stream()
        .anyMatch(s -> ahead(q.scene, s) && s.episode <= q.due && s.told.contains(q.fact));
    return isAnswered ? 'a' : q.stays ? 's' : isOpen(q.due) ? 'w' : 'l';
  }

  public int state(int scene, int fact, boolean isSo, boolean isPast) {
    index(isScene(scene), isFact(fact));
    may(isOpen(scenes.get(scene).episode), !strike);
    can(statements.size() < 60);
    statements.add(new Statement(scenes.get(scene), statements.size(), fact, isSo, isPast));
    return statements.size() - 1;
  }

  private List<Statement> standing(int fact) {
    List<Statement> left = new ArrayList<>();
    statements.stream().filter(s -> s.fact == fact && !s.scene.isCut)
        .sorted(Comparator.comparing((Statement s) -> s.scene, ORDER)
            .thenComparingInt(s -> s.number))
        .forEach(s -> {
          if (s.isPast) left.clear();
          left.add(s);
        });
    return left;
  }

  public int clashes(int fact) {
    index(isFact(fact));
    List<Statement> left = standing(fact);
    int pairs = 0;
    for (int i = 0; i < left.size(); i++) {
      for (int j = 0; j < i; j++) {
        if (left.get(i).isSo != left.get(j).isSo) pairs++;
      }
    }
    return pairs;
  }

  public int repair(int fact) {
    index(isFact(fact));
    List<Statement> left = standing(fact);
    int so = (int) left.stream().filter(s -> s.isSo).count();
    return so * 2 > left.size() ? left.size() - so : so;
  }

  public boolean isSo(int fact) {
    index(isFact(fact));
    List<Statement> left = standing(fact);
    if (left.isEmpty()) throw new NoSuchElementException();
    return left.get(left.size() - 1).isSo;
  }

  private boolean toldIn(int fact, int from, int to) {
    return order().stream().anyMatch(s -> in(s.episode, from, to) && s.told.contains(fact));
  }

  public boolean remembers(int fact, int episode, boolean isWeekly) {
    index(isFact(fact));
    range(in(episode, 0, 7));
    return toldIn(fact, episode - (isWeekly ? 1 : 3), episode - 1);
  }

  private int[] recapped(int episode, boolean isWeekly) {
    range(in(episode, 0, 7));
    return IntStream.range(0, facts)
        .filter(f -> acts.stream()
            .anyMatch(a -> a.fact == f && !a.scene.isCut && a.scene.episode == episode))
        .filter(f -> toldIn(f, 0, episode - 1))
        .filter(f -> !toldIn(f, episode - (isWeekly ? 1 : 3), episode - 1)).toArray();
  }

  public int recap(int episode, boolean isWeekly) {
    return recapped(episode, isWeekly).length;
  }

  public int recapAt(int episode, boolean isWeekly, int index) {
    int[] all = recapped(episode, isWeekly);
    if (!in(index, 0, all.length - 1)) throw new NoSuchElementException();
    return all[index];
  }

  public int propose(int writer, int scene, int episode, int minute) {
    index(isScene(scene));
    range(in(writer, 0, 5), in(episode, 0, 7), in(minute, 0, 59));
    may(branches.get(writer).size() < 12, !strike);
    branches.get(writer).add(new Shift(scenes.get(scene), episode, minute));
    return branches.get(writer).size();
  }

  public int vote(int voter, int writer, boolean isFor) {
    range(in(voter, 0, 5), in(writer, 0, 5), voter != writer);
    may(!strike);
    if (isFor) votes.get(writer).add(voter);
    else votes.get(writer).remove(voter);
    return votes.get(writer).size();
  }

  public int merge(int writer) {
    range(in(writer, 0, 5));
    may(!strike);
    can(writer == 0 || votes.get(writer).size() >= 3, !branches.get(writer).isEmpty());
    int done = 0;
    for (Shift m : branches.get(writer)) {
      if (m.scene.isCut || !isOpen(m.scene.episode) || !isOpen(m.episode)) continue;
      List<Link> held = links.stream().filter(l -> ahead(l.first, l.second)).toList();
      int episode = m.scene.episode;
      int minute = m.scene.minute;
      m.scene.episode = m.episode;
      m.scene.minute = m.minute;
      if (held.stream().allMatch(l -> ahead(l.first, l.second))) {
        done++;
      } else {
        m.scene.episode = episode;
        m.scene.minute = minute;
      }
    }
    branches.get(writer).clear();
    votes.get(writer).clear();
    return done;
  }

  public boolean never(int person, int word, boolean isNever) {
    index(isPerson(person));
    range(in(word, 0, 99));
    may(!strike);
    return isNever ? !nevers.get(person).add(word) : nevers.get(person).remove(word);
  }

  public boolean say(int scene, int person, int word) {
    index(isScene(scene), isPerson(person));
    range(in(word, 0, 99));
    Scene s = scenes.get(scene);
    may(isOpen(s.episode), !strike);
    can(s.people.contains(person), lines.size() < 90);
    lines.add(new Line(s, person, word));
    return !nevers.get(person).contains(word);
  }

  public int wrongLines() {
    return (int) lines.stream()
        .filter(l -> !l.scene.isCut && nevers.get(l.person).contains(l.word)).count();
  }

  public int shooting(int episode) {
    range(in(episode, 0, 7));
    int days = 0;
    for (int set = 0; set < 10; set++) {
      List<List<Scene>> plan = new ArrayList<>();
      for (Scene s : order()) {
        if (s.episode != episode || s.set != set) continue;
        List<Scene> day = plan.stream().filter(d -> fits(d, s)).findFirst().orElse(null);
        if (day == null) plan.add(day = new ArrayList<>());
        day.add(s);
      }
      days += plan.size();
    }
    return days;
  }

  private boolean fits(List<Scene> day, Scene s) {
    return day.size() < 3 && s.people.stream().filter(people::get)
        .allMatch(p -> day.stream().filter(d -> d.people.contains(p)).count() < 2);
  }

  public int leaving(int person, int episode) {
    index(isPerson(person));
    range(in(episode, 0, 7));
    return (int) acts.stream()
        .filter(a -> a.person == person && !a.scene.isCut && a.scene.episode >= episode)
        .filter(a -> a.scene.people.stream()
            .noneMatch(p -> p != person && knowsIn(p, a.fact, a.scene)))
        .map(a -> a.scene).distinct().count();
  }

  public int promise(int person, int episode) {
    index(isPerson(person));
    range(in(episode, 0, 7));
    may(!strike);
    return promised.set(person, episode);
  }

  public int broken() {
    int count = 0;
    for (int p = 0; p < people.size(); p++) {
      int person = p;
      count += IntStream.rangeClosed(0, promised.get(p))
          .filter(e -> order().stream()
              .noneMatch(s -> s.episode == e && s.people.contains(person))).count();
    }
    return count;
  }

  private int counts(Scene s) {
    long caused = uncutLinks().stream().filter(l -> l.first == s).count();
    long set = uncutSetUps().filter(i -> setUps.get(i) == s).count();
    long paid = uncutSetUps().filter(i -> payments.get(i) == s && isPaid(i)).count();
    return (int) (1 + caused + set + 2 * paid);
  }

  public int credit(int episode, int writer) {
    range(in(episode, 0, 7), in(writer, 0, 5));
    List<Scene> here = order().stream().filter(s -> s.episode == episode).toList();
    int all = here.stream().mapToInt(this::counts).sum();
    int mine = here.stream().filter(s -> s.writer == writer).mapToInt(this::counts).sum();
    if (all == 0 || mine * 1000 / all < 100) return 0;
    return mine * 1000 / all;
  }

  public long checksum() {
    return order().stream()
        .reduce(0L, (sum, s) -> 31 * sum + s.number + 7 * s.people.size(), Long::sum);
  }

  public float paidShare() {
    long all = uncutSetUps().count();
    if (all == 0) throw new ArithmeticException();
    return (float) uncutSetUps().filter(this::isPaid).count() / (float) all;
  }

  public double meanDepth() {
    if (order().isEmpty()) throw new ArithmeticException();
    return (double) IntStream.of(depths()).sum() / (double) order().size();
  }

  public boolean isSound() {
    return true;
  }
}
