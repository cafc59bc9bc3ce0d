import java.nio.file.Files;
import java.nio.file.Path;
import java.util.ArrayList;
import java.util.List;

/** The example in README.md answers what README.md says of it. */
public final class ReadmeExample {
  public static void main(String[] args) throws Exception {
    List<String> said = new ArrayList<>();
    for (String line : Files.readAllLines(Path.of("README.md"))) if (line.startsWith("    line.")) said.add(line.trim());
    Check c = new Check();
    c.x.feed(0x73746174, 0x696f6e20, 0x61203020, 0x393b7374, 0x6174696f);
    c.x.feed(0x6e206220, 0x3320393b, 0x74726169, 0x6e207420, 0x35206120);
    c.x.feed(0x6220303b, 0x20202020, 0x20202020, 0x20202020, 0x20202020);
    String[] due = {
      "line.feed(0x73746174, 0x696f6e20, 0x61203020, 0x393b7374, 0x6174696f);",
      "line.feed(0x6e206220, 0x3320393b, 0x74726169, 0x6e207420, 0x35206120);",
      "line.feed(0x6220303b, 0x20202020, 0x20202020, 0x20202020, 0x20202020);",
      "line.load(44); // " + c.x.load(44) + ":",
      "line.go(2, true); // " + c.x.go(2, true) + ":",
      "line.train(0, 9); // " + c.x.train(0, 9) + ":",
      "line.status(); // " + c.x.status() + ":"};
    c.due("lines of the example", said.size(), due.length);
    for (int i = 0; i < due.length && i < said.size(); i++) {
      String line = said.get(i).replaceAll(" +", " ");
      c.due("README.md: " + line + " begins with " + due[i], line.startsWith(due[i]) ? 1 : 0, 1);
    }
    Check.end();
  }
}
