import java.util.ArrayList;
import java.util.Arrays;
import java.util.HashSet;
import java.util.List;
import java.util.NoSuchElementException;
import java.util.Set;
import java.util.TreeMap;
import java.util.TreeSet;

/**
 * The document written down a second time, as slowly and plainly as it can be: every row and every
 * solution is tried one by one. ModelTest compares Wishsolver with it, call by call.
 */
public final class Model {
  /** A rule, asked with a value for each variable. */
  private static final class R {
    int kind;
    TreeSet<Integer> vars = new TreeSet<>();
    int price;
    int level;
    TreeMap<Integer, Integer> weights = new TreeMap<>();
    int relation;
    int bound;
    int x;
    int y;
    int z;
    int c;
    List<int[]> rows = new ArrayList<>();
    int value;
    int least;
    int most;

    boolean holds(int[] v) {
      List<Integer> mine = new ArrayList<>(vars);
      if (kind == 0) {
        int total = 0;
        for (int k : weights.keySet()) total += weights.get(k) * v[k];
        return relation == 0 ? total <= bound : relation == 1 ? total >= bound : total == bound;
      }
      if (kind == 1) return v[x] * v[y] == v[z];
      if (kind == 2) return v[x] - v[y] == v[z] || v[y] - v[x] == v[z];
      if (kind == 3) return v[x] < rows.size() && rows.get(v[x])[0] == v[y];
      if (kind == 4) return rows.stream().anyMatch(r -> Arrays.equals(r, new int[] {v[x], v[y], v[z]}));
      if (kind == 5) return v[x] + c <= v[y];
      if (kind == 6) {
        Set<Integer> seen = new HashSet<>();
        for (int k : mine) seen.add(v[k]);
        return seen.size() == mine.size();
      }
      if (kind == 7) {
        long times = mine.stream().filter(k -> v[k] == value).count();
        return least <= times && times <= most;
      }
      if (kind == 8 || kind == 9) return tour(mine, v);
      for (int i : mine) {
        for (int j : mine) {
          if (i < j && (v[i] - v[j] == j - i || v[j] - v[i] == j - i)) return false;
        }
      }
      return true;
    }

    private boolean tour(List<Integer> mine, int[] v) {
      List<Integer> visited = new ArrayList<>();
      int place = 0;
      while (true) {
        if (place >= mine.size()) return false;
        visited.add(place);
        int next = v[mine.get(place)];
        boolean isAll = visited.size() == mine.size();
        if (kind == 9 && next == place) return isAll;
        if (kind == 8 && next == 0) return isAll;
        if (visited.contains(next)) return false;
        place = next;
      }
    }
  }

  private static final class Kept {
    List<TreeSet<Integer>> told;
    List<TreeSet<Integer>> ranges;
    List<R> waiting;
    List<R> rules;
  }

  private static List<TreeSet<Integer>> copy(List<TreeSet<Integer>> sets) {
    List<TreeSet<Integer>> all = new ArrayList<>();
    for (TreeSet<Integer> s : sets) all.add(new TreeSet<>(s));
    return all;
  }

  private static TreeSet<Integer> setOf(int mask) {
    TreeSet<Integer> s = new TreeSet<>();
    for (int i = 0; i < 31; i++) if ((mask >> i & 1) == 1) s.add(i);
    return s;
  }

  private static int maskOf(Iterable<Integer> s) {
    int mask = 0;
    for (int k : s) mask += 1 << k;
    return mask;
  }

  private List<TreeSet<Integer>> told = new ArrayList<>();
  private List<TreeSet<Integer>> ranges = new ArrayList<>();
  private List<R> rules = new ArrayList<>();
  private List<R> queue = new ArrayList<>();
  private final List<Kept> levels = new ArrayList<>();
  private final TreeMap<Integer, Integer> slip = new TreeMap<>();
  private List<int[]> slipRows = new ArrayList<>();
  private TreeMap<Integer, Integer> aim = new TreeMap<>();
  private boolean failed;
  private int looks;
  private int tooks;
  private int refusals;
  private Quest quest;

  // ---- narrowing

  private static List<int[]> rowsOf(R rule, List<TreeSet<Integer>> within) {
    List<int[]> rows = new ArrayList<>();
    int[] v = new int[6];
    Arrays.fill(v, -77);
    collect(rule, new ArrayList<>(rule.vars), 0, within, v, rows);
    return rows;
  }

  private static void collect(R rule, List<Integer> vars, int at, List<TreeSet<Integer>> within, int[] v, List<int[]> rows) {
    if (at == vars.size()) {
      if (rule.holds(v)) rows.add(v.clone());
      return;
    }
    for (int value : within.get(vars.get(at))) {
      v[vars.get(at)] = value;
      collect(rule, vars, at + 1, within, v, rows);
    }
  }

  private static TreeSet<Integer> inNoRow(int variable, List<int[]> rows, TreeSet<Integer> range) {
    TreeSet<Integer> none = new TreeSet<>(range);
    for (int[] r : rows) none.remove(r[variable]);
    return none;
  }

  private static int total(List<TreeSet<Integer>> sets) {
    int n = 0;
    for (TreeSet<Integer> s : sets) n += s.size();
    return n;
  }

  private void failNow() {
    failed = true;
    for (TreeSet<Integer> s : ranges) s.clear();
    queue.clear();
  }

  private void come(R without, int variable) {
    for (R r : rules) {
      if (r != without && r.vars.contains(variable) && !queue.contains(r)) queue.add(r);
    }
  }

  private int lookAt() {
    R r = queue.remove(0);
    looks++;
    if (r.price > 0) return 0;
    int before = total(ranges);
    List<int[]> rows = rowsOf(r, ranges);
    List<Integer> losers = new ArrayList<>();
    boolean isEmpty = false;
    for (int v : r.vars) {
      TreeSet<Integer> none = inNoRow(v, rows, ranges.get(v));
      if (!none.isEmpty()) losers.add(v);
      ranges.get(v).removeAll(none);
      isEmpty |= ranges.get(v).isEmpty();
    }
    if (isEmpty) {
      failNow();
    } else {
      for (int v : losers) come(r, v);
    }
    int lost = before - total(ranges);
    tooks += lost;
    return lost;
  }

  // ---- variables and rules

  private void variableExists(int v) {
    if (v < 0 || v >= told.size()) throw new IndexOutOfBoundsException();
  }

  private static void arg(boolean isFine) {
    if (!isFine) throw new IllegalArgumentException();
  }

  private static void state(boolean isFine) {
    if (!isFine) throw new IllegalStateException();
  }

  private static boolean in(int k, int least, int most) {
    return k >= least && k <= most;
  }

  public int variable(int set) {
    arg(in(set, 1, 63));
    int product = setOf(set).size();
    for (TreeSet<Integer> s : told) product *= s.size();
    state(told.size() < 6 && levels.isEmpty() && !failed && product <= 7776);
    told.add(setOf(set));
    ranges.add(setOf(set));
    return told.size() - 1;
  }

  public int take(int variable, int value) {
    variableExists(variable);
    arg(told.get(variable).contains(value) && told.get(variable).size() > 1);
    told.get(variable).remove(value);
    if (ranges.get(variable).remove(value)) {
      if (ranges.get(variable).isEmpty()) failNow();
      else come(null, variable);
    }
    return ranges.get(variable).size();
  }

  public int term(int variable, int weight) {
    variableExists(variable);
    arg(in(weight, -4, 4));
    state(!slip.containsKey(variable));
    slip.put(variable, weight);
    return slip.size();
  }

  public int row(int a, int b, int c) {
    arg(in(a, 0, 5) && in(b, 0, 5) && in(c, 0, 5));
    state(slipRows.size() < 12);
    slipRows.add(new int[] {a, b, c});
    return slipRows.size();
  }

  public int wipe() {
    int n = slip.size() + slipRows.size();
    slip.clear();
    slipRows = new ArrayList<>();
    return n;
  }

  private int tell(R r, int kind, int set, int price) {
    r.kind = kind;
    r.vars = setOf(set);
    r.price = price;
    r.level = levels.size();
    rules.add(r);
    if (!failed) queue.add(r);
    return rules.size() - 1;
  }

  public int sum(int relation, int bound, int price) {
    arg(in(relation, 0, 2) && in(bound, -100, 100) && in(price, 0, 9));
    state(!slip.isEmpty() && rules.size() < 12);
    R r = new R();
    r.weights = new TreeMap<>(slip);
    r.relation = relation;
    r.bound = bound;
    int set = maskOf(slip.keySet());
    slip.clear();
    return tell(r, 0, set, price);
  }

  private int triple(int kind, int x, int y, int z, int price) {
    variableExists(x);
    variableExists(y);
    variableExists(z);
    arg(x != y && y != z && x != z && in(price, 0, 9));
    state((kind != 4 || !slipRows.isEmpty()) && rules.size() < 12);
    R r = new R();
    r.x = x;
    r.y = y;
    r.z = z;
    if (kind == 4) {
      r.rows = slipRows;
      slipRows = new ArrayList<>();
    }
    return tell(r, kind, 1 << x | 1 << y | 1 << z, price);
  }

  public int product(int x, int y, int z, int price) {
    return triple(1, x, y, z, price);
  }

  public int distance(int x, int y, int z, int price) {
    return triple(2, x, y, z, price);
  }

  public int element(int x, int y, int price) {
    variableExists(x);
    variableExists(y);
    arg(x != y && in(price, 0, 9));
    state(!slipRows.isEmpty() && rules.size() < 12);
    R r = new R();
    r.x = x;
    r.y = y;
    r.rows = slipRows;
    slipRows = new ArrayList<>();
    return tell(r, 3, 1 << x | 1 << y, price);
  }

  public int table(int x, int y, int z, int price) {
    return triple(4, x, y, z, price);
  }

  public int order(int x, int c, int y, int price) {
    variableExists(x);
    variableExists(y);
    arg(x != y && in(c, -5, 5) && in(price, 0, 9));
    state(rules.size() < 12);
    R r = new R();
    r.x = x;
    r.c = c;
    r.y = y;
    return tell(r, 5, 1 << x | 1 << y, price);
  }

  private int many(int kind, int set, int least, int price) {
    if (set < 0 || set >= 1 << told.size() || setOf(set).size() < least) throw new IndexOutOfBoundsException();
    arg(in(price, 0, 9));
    state(rules.size() < 12);
    return tell(new R(), kind, set, price);
  }

  public int unlike(int set, int price) {
    return many(6, set, 2, price);
  }

  public int often(int set, int value, int least, int most, int price) {
    if (set < 1 || set >= 1 << told.size()) throw new IndexOutOfBoundsException();
    arg(in(value, 0, 5) && in(least, 0, 6) && in(most, least, 6) && in(price, 0, 9));
    state(rules.size() < 12);
    R r = new R();
    r.value = value;
    r.least = least;
    r.most = most;
    return tell(r, 7, set, price);
  }

  public int ring(int set, boolean isPath, int price) {
    return many(isPath ? 9 : 8, set, 2, price);
  }

  public int slope(int set, int price) {
    return many(10, set, 2, price);
  }

  public int drop(int rule) {
    if (rule < 0 || rule >= rules.size()) throw new IndexOutOfBoundsException();
    state(rules.get(rule).level == levels.size());
    rules.remove(rule);
    failed = false;
    ranges = copy(told);
    queue = new ArrayList<>(rules);
    return rules.size();
  }

  public int goal() {
    aim = new TreeMap<>(slip);
    slip.clear();
    return aim.size();
  }

  public int puzzle(int kind, int n) {
    arg(in(kind, 0, 3) && in(n, kind == 2 ? 3 : 2, 5));
    told.clear();
    ranges.clear();
    rules.clear();
    queue.clear();
    levels.clear();
    slip.clear();
    slipRows = new ArrayList<>();
    aim = new TreeMap<>();
    failed = false;
    quest = null;
    int all = (1 << n) - 1;
    for (int i = 0; i < n; i++) variable(all);
    if (kind == 0) {
      unlike(all, 0);
      slope(all, 0);
    }
    if (kind == 1) ring(all, false, 0);
    if (kind == 2) for (int i = 0; i < n; i++) unlike(1 << i | 1 << (i == n - 1 ? 0 : i + 1), 0);
    if (kind == 3) {
      unlike(all, 0);
      term(0, 1);
      term(n - 1, 1);
      sum(2, n - 1, 0);
    }
    return rules.size();
  }

  // ---- levels, looking

  private void newLevel() {
    state(levels.size() < 6);
    Kept k = new Kept();
    k.told = copy(told);
    k.ranges = copy(ranges);
    k.waiting = new ArrayList<>(queue);
    k.rules = new ArrayList<>(rules);
    levels.add(k);
  }

  public int suppose() {
    newLevel();
    return levels.size();
  }

  public int choose(int variable, int value) {
    variableExists(variable);
    arg(ranges.get(variable).contains(value));
    newLevel();
    int lost = ranges.get(variable).size() - 1;
    told.set(variable, new TreeSet<>(List.of(value)));
    ranges.set(variable, new TreeSet<>(List.of(value)));
    if (lost > 0) come(null, variable);
    return lost;
  }

  public int back() {
    state(!levels.isEmpty());
    Kept k = levels.remove(levels.size() - 1);
    told = k.told;
    ranges = k.ranges;
    queue = k.waiting;
    rules = k.rules;
    failed = !ranges.isEmpty() && ranges.get(0).isEmpty();
    return levels.size();
  }

  public int look() {
    if (queue.isEmpty()) throw new NoSuchElementException();
    return lookAt();
  }

  public int settle() {
    int n = 0;
    while (!queue.isEmpty()) {
      lookAt();
      n++;
    }
    return n;
  }

  // ---- the search: everything is made anew from the choices, nothing is kept

  private static final class Quest {
    List<TreeSet<Integer>> told;
    List<R> rules;
    TreeMap<Integer, Integer> aim;
    boolean isBounded;
    int bound;
    List<int[]> choices = new ArrayList<>();
    List<List<int[]>> lines = new ArrayList<>();
    int[] weights = {1, 1, 1, 1, 1, 1};
    int answer;
    int made;
    int jumps;
    int gone;

    /** The ranges by these choices and lines; null if they fail. */
    List<TreeSet<Integer>> narrowed(List<int[]> chosen, List<List<int[]>> by) {
      List<TreeSet<Integer>> now = copy(told);
      for (int[] c : chosen) now.set(c[0], new TreeSet<>(List.of(c[1])));
      boolean isGoing = true;
      while (isGoing) {
        isGoing = false;
        for (R r : rules) {
          if (r.price > 0) continue;
          List<int[]> rows = rowsOf(r, now);
          for (int v : r.vars) {
            isGoing |= now.get(v).removeAll(inNoRow(v, rows, now.get(v)));
            if (now.get(v).isEmpty()) return null;
          }
        }
        for (List<int[]> line : by) {
          int open = 0;
          int[] last = null;
          boolean isHeld = false;
          for (int[] c : line) {
            isHeld |= !now.get(c[0]).contains(c[1]);
            if (now.get(c[0]).size() > 1) {
              open++;
              last = c;
            }
          }
          if (isHeld || open > 1) continue;
          if (open == 0) return null;
          isGoing |= now.get(last[0]).remove(last[1]);
        }
      }
      return isBounded && lowest(now) > bound ? null : now;
    }

    int lowest(List<TreeSet<Integer>> now) {
      int n = 0;
      for (int k : aim.keySet()) n += Math.min(aim.get(k) * now.get(k).first(), aim.get(k) * now.get(k).last());
      for (R r : rules) if (r.price > 0 && rowsOf(r, now).isEmpty()) n += r.price;
      return n;
    }

    List<TreeSet<Integer>> now() {
      return narrowed(choices, answer == 2 ? linesBut(lines.size() - 1) : lines);
    }

    /** The empty line of a proof came behind all narrowing. */
    List<List<int[]>> linesBut(int n) {
      return lines.subList(0, n);
    }

    int step() {
      if (answer != 0) return 0;
      List<TreeSet<Integer>> now = now();
      if (now == null) {
        learn();
        return 1;
      }
      int best = -1;
      for (int v = 0; v < now.size(); v++) {
        int n = now.get(v).size();
        if (n == 1) continue;
        if (best < 0 || n < now.get(best).size() || n == now.get(best).size() && weights[v] > weights[best]) best = v;
      }
      if (best < 0) {
        answer = 1;
        return 2;
      }
      choices.add(new int[] {best, now.get(best).first()});
      made++;
      return 3;
    }

    private void learn() {
      List<int[]> left = new ArrayList<>(choices);
      for (int[] c : choices) {
        List<int[]> without = new ArrayList<>(left);
        without.remove(c);
        if (narrowed(without, lines) == null) left = without;
      }
      if (left.isEmpty()) {
        lines.add(left);
        answer = 2;
        return;
      }
      if (lines.size() == 40) {
        answer = 3;
        return;
      }
      lines.add(left);
      for (int[] c : left) weights[c[0]]++;
      int before = choices.size();
      while (!choices.isEmpty() && (left.size() == 1 || choices.get(choices.size() - 1) != left.get(left.size() - 2))) {
        choices.remove(choices.size() - 1);
      }
      gone = before - choices.size();
      jumps++;
    }

    int right() {
      int n = 0;
      for (int i = 0; i < lines.size(); i++) if (narrowed(lines.get(i), linesBut(i)) == null) n++;
      return n;
    }
  }

  public int begin(boolean isBounded, int bound) {
    arg(in(bound, -1000, 1000));
    quest = new Quest();
    quest.told = copy(told);
    quest.rules = new ArrayList<>(rules);
    quest.aim = new TreeMap<>(aim);
    quest.isBounded = isBounded;
    quest.bound = bound;
    List<TreeSet<Integer>> now = quest.now();
    return now == null ? 0 : total(now);
  }

  public int step() {
    return quest == null ? 0 : quest.step();
  }

  public int run(int most) {
    arg(in(most, 1, 12));
    int n = 0;
    while (n < most && quest != null && quest.answer == 0) {
      quest.step();
      n++;
    }
    return n;
  }

  public int draw() {
    return ++refusals;
  }

  // ---- what is asked

  public int range(int variable, boolean isTold) {
    variableExists(variable);
    return maskOf((isTold ? told : ranges).get(variable));
  }

  public int ofRule(int rule, int what) {
    if (rule < 0 || rule >= rules.size()) throw new IndexOutOfBoundsException();
    arg(in(what, 0, 6));
    R r = rules.get(rule);
    if (what == 0) return r.kind;
    if (what == 1) return maskOf(r.vars);
    if (what == 2) return r.price;
    if (what == 3) return r.level;
    if (what == 4) return queue.contains(r) ? 1 : 0;
    List<int[]> rows = rowsOf(r, ranges);
    if (what == 5) return rows.size();
    int n = 0;
    for (int v : r.vars) n += inNoRow(v, rows, ranges.get(v)).size();
    return n;
  }

  private static String text(List<String> words, String empty) {
    return words.isEmpty() ? empty : String.join(" ", words);
  }

  public String waiting() {
    List<String> words = new ArrayList<>();
    for (R r : queue) words.add(String.valueOf(rules.indexOf(r)));
    return text(words, "-");
  }

  private List<int[]> all(List<R> hard) {
    List<int[]> found = new ArrayList<>();
    extend(hard, 0, new int[told.size()], found);
    return found;
  }

  private void extend(List<R> hard, int at, int[] v, List<int[]> found) {
    if (at == told.size()) {
      for (R r : hard) if (!r.holds(v)) return;
      found.add(v.clone());
      return;
    }
    for (int value : told.get(at)) {
      v[at] = value;
      extend(hard, at + 1, v, found);
    }
  }

  private List<R> hard() {
    List<R> list = new ArrayList<>();
    for (R r : rules) if (r.price == 0) list.add(r);
    return list;
  }

  public int solutions() {
    return all(hard()).size();
  }

  private int[] nth(int nth) {
    List<int[]> found = all(hard());
    if (nth < 0 || nth >= found.size()) throw new NoSuchElementException();
    return found.get(nth);
  }

  public String solution(int nth) {
    List<String> words = new ArrayList<>();
    for (int v : nth(nth)) words.add(String.valueOf(v));
    return text(words, "");
  }

  private int costOf(int[] v) {
    int n = 0;
    for (int k : aim.keySet()) n += aim.get(k) * v[k];
    for (R r : rules) if (!r.holds(v)) n += r.price;
    return n;
  }

  public int cost(int nth) {
    return costOf(nth(nth));
  }

  private Set<List<Integer>> images(int[] v, int mirrors) {
    int top = 0;
    for (TreeSet<Integer> s : told) top = Math.max(top, s.last());
    List<Integer> same = new ArrayList<>();
    for (int k : v) same.add(k);
    Set<List<Integer>> set = new HashSet<>();
    set.add(same);
    for (int m = 0; m < 2; m++) {
      if ((mirrors >> m & 1) == 0) continue;
      for (List<Integer> one : new ArrayList<>(set)) {
        List<Integer> other = new ArrayList<>();
        for (int i = 0; i < one.size(); i++) other.add(m == 0 ? one.get(one.size() - 1 - i) : top - one.get(i));
        set.add(other);
      }
    }
    return set;
  }

  public int unlikes(int mirrors) {
    arg(in(mirrors, 0, 3));
    Set<List<Integer>> seen = new HashSet<>();
    int n = 0;
    for (int[] v : all(hard())) {
      List<Integer> same = new ArrayList<>();
      for (int k : v) same.add(k);
      if (!seen.contains(same)) n++;
      seen.addAll(images(v, mirrors));
    }
    return n;
  }

  public int alike(int nth, int mirrors) {
    arg(in(mirrors, 0, 3));
    Set<List<Integer>> images = images(nth(nth), mirrors);
    int n = 0;
    for (int[] v : all(hard())) {
      List<Integer> same = new ArrayList<>();
      for (int k : v) same.add(k);
      if (images.contains(same)) n++;
    }
    return n;
  }

  public int best(boolean isPlace) {
    List<int[]> found = all(hard());
    if (found.isEmpty()) throw new NoSuchElementException();
    int best = 0;
    for (int i = 0; i < found.size(); i++) if (costOf(found.get(i)) < costOf(found.get(best))) best = i;
    return isPlace ? best : costOf(found.get(best));
  }

  private boolean hasNone(List<R> set) {
    return all(set).isEmpty();
  }

  public String core() {
    state(hasNone(hard()));
    List<R> left = hard();
    for (R r : hard()) {
      List<R> without = new ArrayList<>(left);
      without.remove(r);
      if (hasNone(without)) left = without;
    }
    List<String> words = new ArrayList<>();
    for (R r : left) words.add(String.valueOf(rules.indexOf(r)));
    return text(words, "-");
  }

  public int tights(int size) {
    arg(in(size, 0, 4));
    List<R> hard = hard();
    int n = 0;
    for (int mask = 0; mask < 1 << hard.size(); mask++) {
      if (Integer.bitCount(mask) != size) continue;
      List<R> set = new ArrayList<>();
      for (int k : setOf(mask)) set.add(hard.get(k));
      if (!hasNone(set)) continue;
      boolean isTight = true;
      for (R r : set) {
        List<R> without = new ArrayList<>(set);
        without.remove(r);
        isTight &= !hasNone(without);
      }
      if (isTight) n++;
    }
    return n;
  }

  public int search(int what) {
    arg(in(what, 0, 6));
    if (quest == null) return 0;
    int[] all = {quest.answer, quest.choices.size(), quest.lines.size(), quest.made, quest.jumps, quest.gone,
      quest.now() == null ? 1 : 0};
    return all[what];
  }

  private static String choicesText(List<int[]> choices) {
    List<String> words = new ArrayList<>();
    for (int[] c : choices) words.add(c[0] + "=" + c[1]);
    return text(words, "-");
  }

  public String chosen() {
    return choicesText(quest == null ? new ArrayList<>() : quest.choices);
  }

  public String line(int nth) {
    if (quest == null || nth < 0 || nth >= quest.lines.size()) throw new IndexOutOfBoundsException();
    return choicesText(quest.lines.get(nth));
  }

  public int weight(int variable) {
    variableExists(variable);
    return quest == null ? 1 : quest.weights[variable];
  }

  public int right() {
    return quest == null ? 0 : quest.right();
  }

  public String found() {
    if (quest == null || quest.answer != 1) throw new NoSuchElementException();
    List<String> words = new ArrayList<>();
    for (TreeSet<Integer> s : quest.now()) words.add(String.valueOf(s.first()));
    return text(words, "");
  }

  public int house(int what) {
    arg(in(what, 0, 11));
    int[] all = {told.size(), rules.size(), levels.size(), queue.size(), failed ? 1 : 0, total(ranges), slip.size(),
      slipRows.size(), aim.size(), looks, tooks, refusals};
    return all[what];
  }

  /** By the document nothing can ever make it false. */
  public boolean isSound() {
    return true;
  }

  public long digest() {
    List<Integer> all = new ArrayList<>();
    for (int i = 0; i <= 11; i++) all.add(house(i));
    for (int i = 0; i < told.size(); i++) all.addAll(List.of(range(i, true), range(i, false), weight(i)));
    for (int i = 0; i < rules.size(); i++) for (int what = 0; what <= 6; what++) all.add(ofRule(i, what));
    all.add(waiting().length());
    boolean isSolvable = solutions() > 0;
    all.add(solutions());
    all.add(isSolvable ? best(false) : -1);
    all.add(isSolvable ? best(true) : -1);
    all.add(unlikes(3));
    all.add(isSolvable ? -1 : core().length());
    all.add(tights(1));
    all.add(tights(2));
    for (int i = 0; i <= 6; i++) all.add(search(i));
    all.add(chosen().length());
    for (int i = 0; i < search(2); i++) all.add(line(i).length());
    all.add(right());
    all.add(isSound() ? 1 : 0);
    long d = 6121;
    for (int v : all) d = d * 31 + v;
    return d;
  }
}
