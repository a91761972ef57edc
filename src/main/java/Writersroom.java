import java.util.ArrayList;
import java.util.NoSuchElementException;

/** A serial made by many; ../shared/DOC.md says what each call promises. */
public final class Writersroom {
  private static final int PEOPLE = 8;
  private static final int FACTS = 24;
  private static final int SCENES = 30;
  private static final int EPISODES = 8;
  private static final int MINUTES = 60;
  private static final int STORY_DAYS = 1000;
  private static final int SETS = 10;
  private static final int WRITERS = 6;
  private static final int WORDS = 100;
  private static final int ACTS = 60;
  private static final int CAUSES = 60;
  private static final int SET_UPS = 20;
  private static final int QUESTIONS = 20;
  private static final int STATEMENTS = 60;
  private static final int MOVES = 12;
  private static final int LINES = 90;

  private static final int SHOWRUNNER = 0;
  private static final int VOTES_NEEDED = 3;
  private static final int WEEKLY_MEMORY = 1;
  private static final int BINGE_MEMORY = 3;
  private static final int SCENES_A_DAY = 3;
  private static final int WHOLE_CREDIT = 1000;
  private static final int LEAST_CREDIT = 100;

  private final ArrayList<Scene> scenes = new ArrayList<Scene>();
  /** The scenes that are not cut, by episodes, minutes and numbers. */
  private final ArrayList<Scene> order = new ArrayList<Scene>();
  private final ArrayList<Person> people = new ArrayList<Person>();
  private final ArrayList<Act> acts = new ArrayList<Act>();
  private final ArrayList<Cause> causes = new ArrayList<Cause>();
  private final ArrayList<SetUp> setUps = new ArrayList<SetUp>();
  private final ArrayList<Question> questions = new ArrayList<Question>();
  private final ArrayList<Statement> statements = new ArrayList<Statement>();
  private final ArrayList<Branch> branches = new ArrayList<Branch>();
  private final ArrayList<Line> lines = new ArrayList<Line>();
  private final Schedule schedule = new Schedule();
  /** A bit for each person who is a child. */
  private int children = 0;
  private int facts = 0;
  private int airedEpisodes = 0;
  private boolean isStriking = false;

  public Writersroom() {
    for (int writer = 0; writer < WRITERS; writer++) {
      branches.add(new Branch());
    }
  }

  // Season

  public int person(boolean isChild) throws IllegalStateException {
    if (people.size() >= PEOPLE || isStriking) {
      throw new IllegalStateException("8 people are there, or a strike is on");
    }
    int number = people.size();
    people.add(new Person());
    children = withBit(children, number, isChild);
    return number;
  }

  public int fact() throws IllegalStateException {
    if (facts >= FACTS || isStriking) {
      throw new IllegalStateException("24 facts are there, or a strike is on");
    }
    int number = facts;
    facts++;
    return number;
  }

  public int scene(int episode, int minute, int day, int set, int writer)
      throws IllegalArgumentException, IllegalStateException {
    demandTime(episode, minute);
    if (!isBelow(day, STORY_DAYS) || !isBelow(set, SETS) || !isBelow(writer, WRITERS)) {
      throw new IllegalArgumentException("a number is out of range");
    }
    if (scenes.size() >= SCENES || hasAired(episode) || isStriking) {
      throw new IllegalStateException("30 scenes are there, the episode aired, or a strike is on");
    }
    Scene added = new Scene(scenes.size(), day, set, writer);
    added.episode = episode;
    added.minute = minute;
    scenes.add(added);
    enter(added);
    return added.number;
  }

  public int move(int scene, int episode, int minute)
      throws IndexOutOfBoundsException, IllegalArgumentException, IllegalStateException {
    Scene moved = sceneOf(scene);
    demandTime(episode, minute);
    demandOpen(moved);
    if (hasAired(episode)) {
      throw new IllegalStateException("the episode aired");
    }
    shift(moved, episode, minute);
    return placeOf(moved);
  }

  public boolean setCut(int scene, boolean isCut)
      throws IndexOutOfBoundsException, IllegalStateException {
    Scene at = sceneOf(scene);
    demandOpen(at);
    boolean wasCut = at.isCut;
    withdraw(at);
    at.isCut = isCut;
    enter(at);
    return wasCut;
  }

  public int sceneAt(int place) throws IndexOutOfBoundsException {
    if (place < 0 || place >= order.size()) {
      throw new IndexOutOfBoundsException("no such place");
    }
    return order.get(place).number;
  }

  public int air() throws IllegalStateException {
    if (airedEpisodes >= EPISODES) {
      throw new IllegalStateException("all 8 aired");
    }
    int episode = airedEpisodes;
    airedEpisodes++;
    return episode;
  }

  public boolean strike(boolean isOn) {
    boolean wasOn = isStriking;
    isStriking = isOn;
    return wasOn;
  }

  public int goesBack() {
    int times = 0;
    for (int place = 1; place < order.size(); place++) {
      if (order.get(place).day < order.get(place - 1).day) {
        times++;
      }
    }
    return times;
  }

  // World

  public boolean present(int scene, int person, boolean isPresent)
      throws IndexOutOfBoundsException, IllegalStateException {
    Scene at = sceneOf(scene);
    demandPerson(person);
    demandOpen(at);
    boolean wasPresent = at.hasPerson(person);
    at.peopleThere = withBit(at.peopleThere, person, isPresent);
    return wasPresent;
  }

  public int tell(int scene, int fact) throws IndexOutOfBoundsException, IllegalStateException {
    Scene at = sceneOf(scene);
    demandFact(fact);
    demandOpen(at);
    at.factsTold = withBit(at.factsTold, fact, true);
    int learners = 0;
    for (int person = 0; person < people.size(); person++) {
      if (firstLearned(person, fact) == at) {
        learners++;
      }
    }
    return learners;
  }

  public boolean keep(int scene, int person, int fact, boolean isKept)
      throws IndexOutOfBoundsException, IllegalStateException {
    Scene at = sceneOf(scene);
    demandPerson(person);
    demandFact(fact);
    demandOpen(at);
    boolean wasKept = at.keepsFrom(person, fact);
    at.setKept(person, fact, isKept);
    return wasKept;
  }

  public boolean act(int scene, int person, int fact)
      throws IndexOutOfBoundsException, IllegalStateException, UnsupportedOperationException {
    Scene at = sceneOf(scene);
    demandPerson(person);
    demandFact(fact);
    demandOpen(at);
    if (!at.hasPerson(person) || acts.size() >= ACTS) {
      throw new UnsupportedOperationException("the person is not present, or 60 acts are there");
    }
    acts.add(new Act(at, person, fact));
    return canKnow(person, fact, at);
  }

  public boolean knows(int person, int fact, int scene) throws IndexOutOfBoundsException {
    demandPerson(person);
    demandFact(fact);
    return canKnow(person, fact, sceneOf(scene));
  }

  public int since(int person, int fact) throws IndexOutOfBoundsException, NoSuchElementException {
    demandPerson(person);
    demandFact(fact);
    Scene first = firstLearned(person, fact);
    if (first == null) {
      throw new NoSuchElementException("the person never knows it");
    }
    return first.number;
  }

  public int unknown() {
    int found = 0;
    for (int i = 0; i < acts.size(); i++) {
      Act act = acts.get(i);
      if (!act.scene.isCut && !isFounded(act)) {
        found++;
      }
    }
    return found;
  }

  public int knowers(int fact) throws IndexOutOfBoundsException {
    demandFact(fact);
    int found = 0;
    for (int person = 0; person < people.size(); person++) {
      if (firstLearned(person, fact) != null) {
        found++;
      }
    }
    return found;
  }

  // Causes, set-ups and questions

  public boolean cause(int first, int second) throws IndexOutOfBoundsException,
      IllegalArgumentException, IllegalStateException, UnsupportedOperationException {
    Scene from = sceneOf(first);
    Scene to = sceneOf(second);
    if (first == second) {
      throw new IllegalArgumentException("a scene is not its own cause");
    }
    demandOpen(to);
    if (isCauseOf(from, to) || causes.size() >= CAUSES) {
      throw new UnsupportedOperationException("it is so already, or 60 causes are there");
    }
    causes.add(new Cause(from, to));
    return from.isAheadOf(to);
  }

  public int wrongCauses() {
    int found = 0;
    for (int i = 0; i < causes.size(); i++) {
      Cause cause = causes.get(i);
      if (cause.isUncut() && !cause.first.isAheadOf(cause.second)) {
        found++;
      }
    }
    return found;
  }

  public int depth(int scene) throws IndexOutOfBoundsException {
    Scene at = sceneOf(scene);
    if (at.isCut) {
      return 0;
    }
    reckonDepths();
    return at.depthReckoned;
  }

  public int setUp(int scene)
      throws IndexOutOfBoundsException, IllegalStateException, UnsupportedOperationException {
    Scene at = sceneOf(scene);
    demandOpen(at);
    if (setUps.size() >= SET_UPS) {
      throw new UnsupportedOperationException("20 set-ups are there");
    }
    int number = setUps.size();
    setUps.add(new SetUp(at));
    return number;
  }

  public boolean pay(int setUp, int scene) throws IndexOutOfBoundsException, IllegalStateException {
    if (setUp < 0 || setUp >= setUps.size()) {
      throw new IndexOutOfBoundsException("no such set-up");
    }
    SetUp paid = setUps.get(setUp);
    Scene at = sceneOf(scene);
    demandOpen(at);
    Scene before = paid.paidIn;
    if (before != null) {
      demandOpen(before);
    }
    paid.paidIn = at;
    return paid.isPaid();
  }

  public int unpaid() {
    return countSetUps(false);
  }

  public int question(int scene, int fact, int due) throws IndexOutOfBoundsException,
      IllegalArgumentException, IllegalStateException, UnsupportedOperationException {
    Scene at = sceneOf(scene);
    demandFact(fact);
    demandEpisode(due);
    demandOpen(at);
    if (questions.size() >= QUESTIONS) {
      throw new UnsupportedOperationException("20 questions are there");
    }
    int number = questions.size();
    questions.add(new Question(at, fact, due));
    return number;
  }

  public boolean stay(int question, boolean isOpen)
      throws IndexOutOfBoundsException, IllegalStateException {
    Question put = questionOf(question);
    demandNoStrike();
    boolean wasOpen = put.isMeantToStay;
    put.isMeantToStay = isOpen;
    return wasOpen;
  }

  public char questionIs(int question) throws IndexOutOfBoundsException {
    Question put = questionOf(question);
    if (put.scene.isCut) {
      return '-';
    }
    if (isAnswered(put)) {
      return 'a';
    }
    if (put.isMeantToStay) {
      return 's';
    }
    return hasAired(put.due) ? 'l' : 'w';
  }

  // Canon and viewers

  public int state(int scene, int fact, boolean isSo, boolean isPast)
      throws IndexOutOfBoundsException, IllegalStateException, UnsupportedOperationException {
    Scene at = sceneOf(scene);
    demandFact(fact);
    demandOpen(at);
    if (statements.size() >= STATEMENTS) {
      throw new UnsupportedOperationException("60 statements are there");
    }
    Statement made = new Statement(statements.size(), at, fact, isSo, isPast);
    statements.add(made);
    return made.number;
  }

  public int clashes(int fact) throws IndexOutOfBoundsException {
    demandFact(fact);
    return countStanding(fact, true) * countStanding(fact, false);
  }

  public int repair(int fact) throws IndexOutOfBoundsException {
    demandFact(fact);
    return Math.min(countStanding(fact, true), countStanding(fact, false));
  }

  public boolean isSo(int fact) throws IndexOutOfBoundsException, NoSuchElementException {
    demandFact(fact);
    Statement last = lastStatement(fact, false);
    if (last == null) {
      throw new NoSuchElementException("no statement on it");
    }
    return last.saysSo;
  }

  public boolean remembers(int fact, int episode, boolean isWeekly)
      throws IndexOutOfBoundsException, IllegalArgumentException {
    demandFact(fact);
    demandEpisode(episode);
    return isRemembered(lastTold(fact, episode), episode, isWeekly);
  }

  public int recap(int episode, boolean isWeekly) throws IllegalArgumentException {
    demandEpisode(episode);
    int found = 0;
    for (int fact = 0; fact < facts; fact++) {
      if (needsRecap(fact, episode, isWeekly)) {
        found++;
      }
    }
    return found;
  }

  public int recapAt(int episode, boolean isWeekly, int index)
      throws IllegalArgumentException, NoSuchElementException {
    demandEpisode(episode);
    int found = -1;
    int ahead = 0;
    for (int fact = 0; fact < facts && found < 0; fact++) {
      if (needsRecap(fact, episode, isWeekly)) {
        if (ahead == index) {
          found = fact;
        }
        ahead++;
      }
    }
    if (found < 0) {
      throw new NoSuchElementException("there are not so many");
    }
    return found;
  }

  // Board, words, production and credit

  public int propose(int writer, int scene, int episode, int minute)
      throws IndexOutOfBoundsException, IllegalArgumentException, IllegalStateException {
    Scene moved = sceneOf(scene);
    Branch branch = branchOf(writer);
    demandTime(episode, minute);
    if (branch.moves.size() >= MOVES || isStriking) {
      throw new IllegalStateException("12 moves are on it, or a strike is on");
    }
    branch.moves.add(new Move(moved, episode, minute));
    return branch.moves.size();
  }

  public int vote(int voter, int writer, boolean isFor)
      throws IllegalArgumentException, IllegalStateException {
    Branch branch = branchOf(writer);
    if (!isBelow(voter, WRITERS) || voter == writer) {
      throw new IllegalArgumentException("no such voter, or both are the same");
    }
    demandNoStrike();
    branch.voters = withBit(branch.voters, voter, isFor);
    return Integer.bitCount(branch.voters);
  }

  public int merge(int writer)
      throws IllegalArgumentException, IllegalStateException, UnsupportedOperationException {
    Branch branch = branchOf(writer);
    demandNoStrike();
    boolean isAllowed = writer == SHOWRUNNER || Integer.bitCount(branch.voters) >= VOTES_NEEDED;
    if (!isAllowed || branch.moves.isEmpty()) {
      throw new UnsupportedOperationException("it has not votes enough, or no moves");
    }
    int done = 0;
    for (int i = 0; i < branch.moves.size(); i++) {
      Move move = branch.moves.get(i);
      if (canBeDone(move)) {
        shift(move.scene, move.episode, move.minute);
        done++;
      }
    }
    branch.moves.clear();
    branch.voters = 0;
    return done;
  }

  public boolean never(int person, int word, boolean isNever)
      throws IndexOutOfBoundsException, IllegalArgumentException, IllegalStateException {
    demandPerson(person);
    demandWord(word);
    demandNoStrike();
    boolean wasNever = refusesWord(person, word);
    setRefused(person, word, isNever);
    return wasNever;
  }

  public boolean say(int scene, int person, int word) throws IndexOutOfBoundsException,
      IllegalArgumentException, IllegalStateException, UnsupportedOperationException {
    Scene at = sceneOf(scene);
    demandPerson(person);
    demandWord(word);
    demandOpen(at);
    if (!at.hasPerson(person) || lines.size() >= LINES) {
      throw new UnsupportedOperationException("the person is not present, or 90 lines are there");
    }
    lines.add(new Line(at, person, word));
    return !refusesWord(person, word);
  }

  public int wrongLines() {
    int found = 0;
    for (int i = 0; i < lines.size(); i++) {
      Line line = lines.get(i);
      if (!line.scene.isCut && refusesWord(line.person, line.word)) {
        found++;
      }
    }
    return found;
  }

  public int shooting(int episode) throws IllegalArgumentException {
    demandEpisode(episode);
    int days = 0;
    for (int set = 0; set < SETS; set++) {
      days += countShootingDays(episode, set);
    }
    return days;
  }

  public int leaving(int person, int episode)
      throws IndexOutOfBoundsException, IllegalArgumentException {
    demandPerson(person);
    demandEpisode(episode);
    int found = 0;
    for (int place = 0; place < order.size(); place++) {
      Scene at = order.get(place);
      if (at.episode >= episode && mustChangeWithout(person, at)) {
        found++;
      }
    }
    return found;
  }

  public int promise(int person, int episode)
      throws IndexOutOfBoundsException, IllegalArgumentException, IllegalStateException {
    Person promised = personOf(person);
    demandEpisode(episode);
    demandNoStrike();
    int before = promised.promisedUpTo;
    promised.promisedUpTo = episode;
    return before;
  }

  public int broken() {
    int found = 0;
    for (int person = 0; person < people.size(); person++) {
      int last = people.get(person).promisedUpTo;
      for (int episode = 0; episode <= last && episode < EPISODES; episode++) {
        if (!isInEpisode(person, episode)) {
          found++;
        }
      }
    }
    return found;
  }

  public int credit(int episode, int writer) throws IllegalArgumentException {
    demandEpisode(episode);
    if (!isBelow(writer, WRITERS)) {
      throw new IllegalArgumentException("no such writer");
    }
    int mine = 0;
    int all = 0;
    for (int place = 0; place < order.size(); place++) {
      Scene at = order.get(place);
      if (at.episode == episode) {
        int weight = weightOf(at);
        all += weight;
        mine += at.writer == writer ? weight : 0;
      }
    }
    if (all == 0) {
      return 0;
    }
    int share = WHOLE_CREDIT * mine / all;
    return share < LEAST_CREDIT ? 0 : share;
  }

  // Figures

  public long checksum() {
    long sum = 0;
    for (int place = 0; place < order.size(); place++) {
      Scene at = order.get(place);
      sum = 31 * sum + at.number + 7L * Integer.bitCount(at.peopleThere);
    }
    return sum;
  }

  public float paidShare() throws ArithmeticException {
    int paid = countSetUps(true);
    int all = paid + countSetUps(false);
    if (all == 0) {
      throw new ArithmeticException("no set-ups");
    }
    return (float) paid / (float) all;
  }

  public double meanDepth() throws ArithmeticException {
    int all = order.size();
    if (all == 0) {
      throw new ArithmeticException("no scenes");
    }
    reckonDepths();
    int sum = 0;
    for (int place = 0; place < order.size(); place++) {
      sum += order.get(place).depthReckoned;
    }
    return (double) sum / (double) all;
  }

  /** The document names nothing that could fail; the order is the one thing kept twice. */
  public boolean isSound() {
    int uncut = 0;
    for (int i = 0; i < scenes.size(); i++) {
      uncut += scenes.get(i).isCut ? 0 : 1;
    }
    for (int place = 1; place < order.size(); place++) {
      if (!order.get(place - 1).isAheadOf(order.get(place))) {
        return false;
      }
    }
    return uncut == order.size();
  }

  // What a call demands

  private static boolean isBelow(int number, int bound) {
    return number >= 0 && number < bound;
  }

  private Scene sceneOf(int number) {
    if (number < 0 || number >= scenes.size()) {
      throw new IndexOutOfBoundsException("no such scene");
    }
    return scenes.get(number);
  }

  private Person personOf(int number) {
    if (number < 0 || number >= people.size()) {
      throw new IndexOutOfBoundsException("no such person");
    }
    return people.get(number);
  }

  private Question questionOf(int number) {
    if (number < 0 || number >= questions.size()) {
      throw new IndexOutOfBoundsException("no such question");
    }
    return questions.get(number);
  }

  private Branch branchOf(int writer) {
    if (writer < 0 || writer >= branches.size()) {
      throw new IllegalArgumentException("no such writer");
    }
    return branches.get(writer);
  }

  private void demandPerson(int number) {
    if (!isBelow(number, people.size())) {
      throw new IndexOutOfBoundsException("no such person");
    }
  }

  private void demandFact(int number) {
    if (!isBelow(number, facts)) {
      throw new IndexOutOfBoundsException("no such fact");
    }
  }

  private static void demandEpisode(int episode) {
    if (!isBelow(episode, EPISODES)) {
      throw new IllegalArgumentException("no such episode");
    }
  }

  private static void demandTime(int episode, int minute) {
    if (!isBelow(episode, EPISODES) || !isBelow(minute, MINUTES)) {
      throw new IllegalArgumentException("a number is out of range");
    }
  }

  private static void demandWord(int word) {
    if (!isBelow(word, WORDS)) {
      throw new IllegalArgumentException("no such word");
    }
  }

  private void demandNoStrike() {
    if (isStriking) {
      throw new IllegalStateException("a strike is on");
    }
  }

  private void demandOpen(Scene at) {
    if (hasAired(at.episode) || isStriking) {
      throw new IllegalStateException("the episode aired, or a strike is on");
    }
  }

  private boolean hasAired(int episode) {
    return episode < airedEpisodes;
  }

  // Bits: a set of people, facts or writers is one int

  private static boolean hasBit(int bits, int bit) {
    return (bits >> bit & 1) != 0;
  }

  private static int withBit(int bits, int bit, boolean isIn) {
    return isIn ? bits | 1 << bit : bits & ~(1 << bit);
  }

  // The order

  private static int rankOf(int episode, int minute, int number) {
    return (episode * MINUTES + minute) * SCENES + number;
  }

  private int placeOf(Scene sought) {
    for (int place = 0; place < order.size(); place++) {
      if (order.get(place) == sought) {
        return place;
      }
    }
    return -1;
  }

  private void enter(Scene entered) {
    if (entered.isCut) {
      return;
    }
    int place = 0;
    while (place < order.size() && order.get(place).isAheadOf(entered)) {
      place++;
    }
    order.add(place, entered);
  }

  private void withdraw(Scene withdrawn) {
    int place = placeOf(withdrawn);
    if (place >= 0 && place < order.size()) {
      order.remove(place);
    }
  }

  private void shift(Scene shifted, int episode, int minute) {
    withdraw(shifted);
    shifted.episode = episode;
    shifted.minute = minute;
    enter(shifted);
  }

  // Knowledge

  /** Returns null if the person never learns it. */
  private Scene firstLearned(int person, int fact) {
    for (int place = 0; place < order.size(); place++) {
      Scene at = order.get(place);
      if (at.teaches(person, fact)) {
        return at;
      }
    }
    return null;
  }

  private boolean canKnow(int person, int fact, Scene at) {
    if (at.isCut) {
      return false;
    }
    Scene first = firstLearned(person, fact);
    return first != null && !at.isAheadOf(first);
  }

  private boolean isFounded(Act act) {
    return act.scene.hasPerson(act.person) && canKnow(act.person, act.fact, act.scene);
  }

  // Causes, set-ups and questions asked

  private boolean isCauseOf(Scene first, Scene second) {
    for (int i = 0; i < causes.size(); i++) {
      Cause cause = causes.get(i);
      if (cause.first == first && cause.second == second) {
        return true;
      }
    }
    return false;
  }

  /** By the order: each cause ahead of a scene has its depth then. */
  private void reckonDepths() {
    for (int place = 0; place < order.size(); place++) {
      Scene at = order.get(place);
      at.depthReckoned = 1;
      for (int i = 0; i < causes.size(); i++) {
        Cause cause = causes.get(i);
        if (cause.second == at && cause.isUncut() && cause.first.isAheadOf(at)) {
          at.depthReckoned = Math.max(at.depthReckoned, cause.first.depthReckoned + 1);
        }
      }
    }
  }

  private int countSetUps(boolean isPaid) {
    int found = 0;
    for (int i = 0; i < setUps.size(); i++) {
      SetUp setUp = setUps.get(i);
      if (!setUp.scene.isCut && setUp.isPaid() == isPaid) {
        found++;
      }
    }
    return found;
  }

  private boolean isAnswered(Question put) {
    for (int place = 0; place < order.size(); place++) {
      Scene at = order.get(place);
      if (at.tells(put.fact) && put.scene.isAheadOf(at) && at.episode <= put.due) {
        return true;
      }
    }
    return false;
  }

  // Canon and viewers asked

  /** Returns null if there is none. */
  private Statement lastStatement(int fact, boolean isOfPastOnly) {
    Statement last = null;
    for (int i = 0; i < statements.size(); i++) {
      Statement made = statements.get(i);
      boolean counts = made.fact == fact && !made.scene.isCut && (made.isOfPast || !isOfPastOnly);
      if (counts && (last == null || last.isAheadOf(made))) {
        last = made;
      }
    }
    return last;
  }

  private int countStanding(int fact, boolean saysSo) {
    Statement past = lastStatement(fact, true);
    int found = 0;
    for (int i = 0; i < statements.size(); i++) {
      Statement made = statements.get(i);
      boolean counts = made.fact == fact && !made.scene.isCut && made.saysSo == saysSo;
      if (counts && (past == null || !made.isAheadOf(past))) {
        found++;
      }
    }
    return found;
  }

  /** Returns the last episode, of those ahead of this one, in which it is told; -1 if none. */
  private int lastTold(int fact, int episode) {
    int last = -1;
    for (int place = 0; place < order.size(); place++) {
      Scene at = order.get(place);
      if (at.tells(fact) && at.episode < episode) {
        last = at.episode;
      }
    }
    return last;
  }

  private static boolean isRemembered(int told, int episode, boolean isWeekly) {
    return told >= 0 && episode - told <= (isWeekly ? WEEKLY_MEMORY : BINGE_MEMORY);
  }

  private boolean needsRecap(int fact, int episode, boolean isWeekly) {
    int told = lastTold(fact, episode);
    return told >= 0 && !isRemembered(told, episode, isWeekly) && isActedOn(fact, episode);
  }

  private boolean isActedOn(int fact, int episode) {
    for (int i = 0; i < acts.size(); i++) {
      Act act = acts.get(i);
      if (act.fact == fact && !act.scene.isCut && act.scene.episode == episode) {
        return true;
      }
    }
    return false;
  }

  // Board, words, production and credit asked

  private boolean canBeDone(Move move) {
    Scene moved = move.scene;
    if (moved.isCut || hasAired(moved.episode) || hasAired(move.episode)) {
      return false;
    }
    for (int i = 0; i < causes.size(); i++) {
      Cause cause = causes.get(i);
      boolean isAheadThen = move.rankThen(cause.first) < move.rankThen(cause.second);
      if (cause.first.isAheadOf(cause.second) && !isAheadThen) {
        return false;
      }
    }
    return true;
  }

  private boolean refusesWord(int person, int word) {
    if (person < 0 || person >= people.size()) {
      return false;
    }
    boolean[] refused = people.get(person).refused;
    return word >= 0 && word < refused.length && refused[word];
  }

  private void setRefused(int person, int word, boolean isRefused) {
    if (person < 0 || person >= people.size()) {
      return;
    }
    boolean[] refused = people.get(person).refused;
    if (word >= 0 && word < refused.length) {
      refused[word] = isRefused;
    }
  }

  private int countShootingDays(int episode, int set) {
    schedule.begin();
    for (int place = 0; place < order.size(); place++) {
      Scene at = order.get(place);
      if (at.episode == episode && at.set == set) {
        schedule.put(at.peopleThere & children);
      }
    }
    return schedule.days;
  }

  private boolean mustChangeWithout(int person, Scene at) {
    for (int i = 0; i < acts.size(); i++) {
      Act act = acts.get(i);
      if (act.scene == at && act.person == person && !hasStandIn(act)) {
        return true;
      }
    }
    return false;
  }

  private boolean hasStandIn(Act act) {
    for (int other = 0; other < people.size(); other++) {
      boolean isThere = other != act.person && act.scene.hasPerson(other);
      if (isThere && canKnow(other, act.fact, act.scene)) {
        return true;
      }
    }
    return false;
  }

  private boolean isInEpisode(int person, int episode) {
    for (int place = 0; place < order.size(); place++) {
      Scene at = order.get(place);
      if (at.episode == episode && at.hasPerson(person)) {
        return true;
      }
    }
    return false;
  }

  /** Asked of scenes that are not cut. */
  private int weightOf(Scene at) {
    int weight = 1;
    for (int i = 0; i < causes.size(); i++) {
      Cause cause = causes.get(i);
      if (cause.first == at && cause.isUncut()) {
        weight++;
      }
    }
    for (int i = 0; i < setUps.size(); i++) {
      SetUp setUp = setUps.get(i);
      if (setUp.scene == at) {
        weight++;
      }
      if (setUp.paidIn == at && setUp.isPaid()) {
        weight += 2;
      }
    }
    return weight;
  }

  private static final class Scene {
    final int number;
    final int day;
    final int set;
    final int writer;
    int episode = 0;
    int minute = 0;
    boolean isCut = false;
    /** A bit for each person who is present. */
    int peopleThere = 0;
    /** A bit for each fact that is told. */
    int factsTold = 0;
    /** By people, a bit for each fact that is kept from them. */
    final int[] factsKept = new int[PEOPLE];
    int depthReckoned = 0;

    Scene(int number, int day, int set, int writer) {
      this.number = number;
      this.day = day;
      this.set = set;
      this.writer = writer;
    }

    int rank() {
      return rankOf(episode, minute, number);
    }

    boolean isAheadOf(Scene other) {
      return rank() < other.rank();
    }

    boolean hasPerson(int person) {
      return hasBit(peopleThere, person);
    }

    boolean tells(int fact) {
      return hasBit(factsTold, fact);
    }

    boolean keepsFrom(int person, int fact) {
      return person >= 0 && person < factsKept.length && hasBit(factsKept[person], fact);
    }

    void setKept(int person, int fact, boolean isKept) {
      if (person >= 0 && person < factsKept.length) {
        factsKept[person] = withBit(factsKept[person], fact, isKept);
      }
    }

    boolean teaches(int person, int fact) {
      if (person < 0 || person >= factsKept.length) {
        return false;
      }
      return hasBit(peopleThere, person) && hasBit(factsTold & ~factsKept[person], fact);
    }
  }

  private static final class Person {
    final boolean[] refused = new boolean[WORDS];
    int promisedUpTo = -1;
  }

  private static final class Act {
    final Scene scene;
    final int person;
    final int fact;

    Act(Scene scene, int person, int fact) {
      this.scene = scene;
      this.person = person;
      this.fact = fact;
    }
  }

  private static final class Cause {
    final Scene first;
    final Scene second;

    Cause(Scene first, Scene second) {
      this.first = first;
      this.second = second;
    }

    boolean isUncut() {
      return !first.isCut && !second.isCut;
    }
  }

  private static final class SetUp {
    final Scene scene;
    /** Where it was paid last, whether that counts or not; null if nowhere. */
    Scene paidIn = null;

    SetUp(Scene scene) {
      this.scene = scene;
    }

    boolean isPaid() {
      return paidIn != null && !scene.isCut && !paidIn.isCut && scene.isAheadOf(paidIn);
    }
  }

  private static final class Question {
    final Scene scene;
    final int fact;
    final int due;
    boolean isMeantToStay = false;

    Question(Scene scene, int fact, int due) {
      this.scene = scene;
      this.fact = fact;
      this.due = due;
    }
  }

  private static final class Statement {
    final int number;
    final Scene scene;
    final int fact;
    final boolean saysSo;
    final boolean isOfPast;

    Statement(int number, Scene scene, int fact, boolean saysSo, boolean isOfPast) {
      this.number = number;
      this.scene = scene;
      this.fact = fact;
      this.saysSo = saysSo;
      this.isOfPast = isOfPast;
    }

    boolean isAheadOf(Statement other) {
      return scene == other.scene ? number < other.number : scene.isAheadOf(other.scene);
    }
  }

  private static final class Branch {
    final ArrayList<Move> moves = new ArrayList<Move>();
    /** A bit for each writer who votes for it. */
    int voters = 0;
  }

  private static final class Move {
    final Scene scene;
    final int episode;
    final int minute;

    Move(Scene scene, int episode, int minute) {
      this.scene = scene;
      this.episode = episode;
      this.minute = minute;
    }

    /** Returns where a scene stands once this move is done. */
    int rankThen(Scene other) {
      return other == scene ? rankOf(episode, minute, scene.number) : other.rank();
    }
  }

  private static final class Line {
    final Scene scene;
    final int person;
    final int word;

    Line(Scene scene, int person, int word) {
      this.scene = scene;
      this.person = person;
      this.word = word;
    }
  }

  /** The days of shooting at one set, used again for each. */
  private static final class Schedule {
    final int[] scenesOn = new int[SCENES];
    /** By days, a bit for each child who is in at least one scene. */
    final int[] childrenOn = new int[SCENES];
    /** By days, a bit for each child who is in two scenes, and in no more. */
    final int[] childrenTwiceOn = new int[SCENES];
    int days = 0;

    void begin() {
      days = 0;
    }

    void put(int childrenThere) {
      int day = 0;
      while (day < days && !takesOn(day, childrenThere)) {
        day++;
      }
      if (day >= scenesOn.length || day >= childrenOn.length || day >= childrenTwiceOn.length) {
        return;
      }
      if (day == days) {
        scenesOn[day] = 0;
        childrenOn[day] = 0;
        childrenTwiceOn[day] = 0;
        days++;
      }
      scenesOn[day]++;
      childrenTwiceOn[day] |= childrenOn[day] & childrenThere;
      childrenOn[day] |= childrenThere;
    }

    boolean takesOn(int day, int childrenThere) {
      boolean isDay = day >= 0 && day < scenesOn.length && day < childrenTwiceOn.length;
      return isDay && scenesOn[day] < SCENES_A_DAY && (childrenTwiceOn[day] & childrenThere) == 0;
    }
  }
}
