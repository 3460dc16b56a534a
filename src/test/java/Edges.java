import java.io.IOException;
import java.nio.file.Files;
import java.nio.file.Path;
import java.util.BitSet;
import java.util.LinkedHashMap;
import java.util.Map;
import java.util.regex.Matcher;
import java.util.regex.Pattern;

/**
 * Tests that belong to words of the document, each to its own: the words must stand there, and at the end
 * all words that name a boundary must have had a test.
 */
final class Edges {
  private static final Path DOC = Path.of("../shared/DOC.md");
  private static final Pattern HEAD = Pattern.compile("(?m)^(## Promise \\d+|== \\d|## What it is|## The public face|## Description|## Not promised).*$");
  /** What makes a sentence one that names a boundary. */
  private static final Pattern BOUNDARY = Pattern.compile("\\b(most|least|just|none|no|not|nothing|empty|above|below|first|last|all|alone"
      + "|without|each|once|twice|perhaps|otherwise|more|less|fewest|greatest|smallest|wraps|gone|if|many|\\d+)\\b", Pattern.CASE_INSENSITIVE);
  /** Sentences that only say where something stands, or head those that follow. */
  private static final Pattern PLAIN = Pattern.compile("\\d+|- \\d+|---- .*|- \\w+: \\S+( \\w+){0,5}|The constructor and the methods follow.*|By KIND it HOLDS, if|.*\\) throws .*|\\w+ \\w+\\(.*\\)");

  /** The parts that tell what is promised, and so need a test for each boundary. */
  private static final Pattern BINDING = Pattern.compile("Description|\\d|Promise \\d+");

  private static final Map<String, String> TEXTS = new LinkedHashMap<>();
  private static final Map<String, BitSet> TESTED = new LinkedHashMap<>();
  private static String section;
  private static int tests;

  private Edges() {}

  static void read() throws IOException {
    String all = Files.readString(DOC).replace("`java` .", "java.").replace("`", "");
    Matcher m = HEAD.matcher(all);
    String name = null;
    int from = 0;
    while (m.find()) {
      if (name != null) keep(name, all.substring(from, m.start()));
      name = m.group(1).replaceAll("^(## |== )", "");
      from = m.end();
    }
  }

  private static void keep(String name, String text) {
    TEXTS.put(name, text);
    TESTED.put(name, new BitSet());
  }

  /** The edges that follow belong to this part of the document. */
  static void in(String name) {
    section = name;
    Check.same("the document has " + name, TEXTS.containsKey(name), true);
  }

  static void promise(int number) {
    in("Promise " + number);
  }

  static void edge(String words, Runnable test) {
    int at = TEXTS.get(section).indexOf(words);
    Check.same(section + " has the words: " + words, at >= 0, true);
    if (at >= 0) TESTED.get(section).set(at, at + words.length());
    tests++;
    Check.say(section + " (" + words + "): ");
    try {
      test.run();
    } catch (RuntimeException e) {
      Check.same("a call", e.toString(), "no exception");
    }
    Check.say("");
  }

  /** Each boundary that the document names has had its test. */
  static void end() {
    for (String name : TEXTS.keySet()) {
      if (!BINDING.matcher(name).matches()) continue;
      String text = TEXTS.get(name);
      Matcher m = Pattern.compile("[^.;\\n]+").matcher(text);
      while (m.find()) {
        String sentence = m.group().trim();
        int at = text.indexOf(sentence, m.start());
        if (sentence.startsWith("Throws ")) whole(name, text, at, (text + '\n').indexOf('\n', at));
        else if (BOUNDARY.matcher(sentence).find() && !PLAIN.matcher(sentence).matches()) part(name, at, sentence);
      }
    }
    System.out.println("EdgesTest: " + tests + " edges");
  }

  private static void part(String name, int at, String sentence) {
    int tested = TESTED.get(name).get(at, at + sentence.length()).cardinality();
    if (tested == 0) Check.same("no test for " + name + ": " + sentence, false, true);
  }

  private static void whole(String name, String text, int from, int end) {
    StringBuilder rest = new StringBuilder();
    for (int i = from; i < end; i++) rest.append(TESTED.get(name).get(i) ? ' ' : text.charAt(i));
    String left = rest.toString().replaceAll("Throws (java\\.util\\.)?(\\w+ if)?|,| or ", " ").trim();
    if (!left.isEmpty()) Check.same("no test for " + name + ": throws if " + left, false, true);
  }
}
