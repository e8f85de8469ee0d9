import java.io.IOException;
import java.nio.file.Files;
import java.nio.file.Path;
import java.nio.file.Paths;
import java.util.ArrayList;
import java.util.List;

/** What README.md shows: its calls stand here, and it shows what they answer. */
public final class ExampleTest {
  private static final Check c = new Check();
  private static final List<String> shown = new ArrayList<>();

  public static void main(String[] args) throws IOException {
    reads(args.length > 0 ? Paths.get(args[0]) : Paths.get("README.md"));
    NoSummer x = new NoSummer();
    answers("district(0, 0)", x.district(0, 0));
    answers("district(1, 2)", x.district(1, 2));
    answers("road(0, 1, 12)", x.road(0, 1, 12));
    answers("holder(1, 1, 80)", x.holder(1, 1, 80));
    answers("holder(2, 0, 0)", x.holder(2, 0, 0));
    answers("holder(3, 1, 0)", x.holder(3, 1, 0));
    answers("gives(0, 2, 900)", x.gives(0, 2, 900));
    answers("gives(1, 0, 300)", x.gives(1, 0, 300));
    answers("gives(1, 1, 100)", x.gives(1, 1, 100));
    answers("gives(1, 3, 10)", x.gives(1, 3, 10));
    answers("gives(2, 0, 200)", x.gives(2, 0, 200));
    answers("brings(0, 1, 10)", x.brings(0, 1, 10));
    answers("row(0, 0, 3)", x.row(0, 0, 3));
    answers("put(0, 0, 'k')", x.put(0, 0, 'k'));
    answers("put(0, 1, '=')", x.put(0, 1, '='));
    answers("fault(0)", x.fault(0));
    answers("law(0)", x.law(0));
    answers("put(0, 2, '3')", x.put(0, 2, '3'));
    answers("law(0)", x.law(0));
    answers("row(1, 1, 40)", x.row(1, 1, 40));
    answers("put(1, 12, 9)", x.put(1, 12, 9));
    answers("weather(0, 1, false)", x.weather(0, 1, false));
    answers("sky(0, 12, false)", x.sky(0, 12, false));
    answers("go(5)", x.go(5));
    answers("record(4, 10)", x.record(4, 10));
    answers("price(1)", x.price(1));
    answers("sends(1)", x.sends(1));
    answers("worst(1, 2, -1, 2)", x.worst(1, 2, -1, 2));
    answers("worst(1, 2, 0, 2)", x.worst(1, 2, 0, 2));
    answers("best(1, 2, 2)", x.best(1, 2, 2));
    answers("image()", x.image());
    answers("force(1, 2, 0)", x.force(1, 2, 0));
    answers("go(1)", x.go(1));
    answers("cart(0, 1)", x.cart(0, 1));
    answers("cart(0, 2)", x.cart(0, 2));
    answers("restore()", x.restore());
    answers("count(4)", x.count(4));
    answers("price(2)", x.price(2));
    c.due(1, "calls that README.md shows beside", shown.size(), 0);
    c.end("ExampleTest");
  }

  /** The calls that README.md shows, each with what stands behind it. */
  private static void reads(Path readme) throws IOException {
    for (String line : Files.readAllLines(readme)) {
      if (line.startsWith("x.")) {
        shown.add(line);
      }
    }
  }

  private static void answers(String call, long answer) {
    String line = shown.isEmpty() ? "nothing more" : shown.remove(0);
    boolean same = line.startsWith("x." + call + ";") && line.matches(".*// " + answer + "(:.*)?");
    c.due(1, call + " is " + answer + ", README.md shows " + line, same ? 1 : 0, 1);
  }
}
