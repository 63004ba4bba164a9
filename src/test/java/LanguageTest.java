import com.sun.source.tree.CompilationUnitTree;
import com.sun.source.util.JavacTask;
import com.sun.source.util.Trees;
import java.io.IOException;
import java.nio.file.Files;
import java.nio.file.Path;
import java.util.List;
import javax.tools.JavaCompiler;
import javax.tools.StandardJavaFileManager;
import javax.tools.ToolProvider;

/** The class keeps to LANGUAGE.md, as far as that can be read off its source; FaceTest looks at the face. */
public final class LanguageTest {
  private static final Path SOURCE = Path.of("src", "main", "java", "TallowIndex.java");
  private static final int MOST_DEEP = 8;

  public static void main(String[] args) throws IOException {
    Check check = new Check("LanguageTest");
    int other = firstOtherSign();
    check.tell("rule 4", other < 0, "the sign " + other + " stands in the source");
    LanguageRules rules = read();
    for (String fault : rules.faults()) check.tell("LANGUAGE.md", false, fault);
    check.tell("LANGUAGE.md", rules.looked() > 1000, "only " + rules.looked() + " pieces were looked at");
    List<String> deepest = rules.calls().deepest();
    check.tell("rule 8", rules.calls().recursive() == null, "calls itself: " + rules.calls().recursive());
    check.tell("rule 11", deepest.size() <= MOST_DEEP, "calls go too deep: " + deepest);
    check.tell("rule 11", deepest.size() > 2, "hardly any calls were found: " + deepest);
    check.end();
  }

  private static int firstOtherSign() throws IOException {
    for (char sign : Files.readString(SOURCE).toCharArray()) {
      if (sign > 126 || sign < ' ' && sign != '\n') return sign;
    }
    return -1;
  }

  private static LanguageRules read() throws IOException {
    JavaCompiler compiler = ToolProvider.getSystemJavaCompiler();
    try (StandardJavaFileManager files = compiler.getStandardFileManager(null, null, null)) {
      Iterable<? extends javax.tools.JavaFileObject> sources = files.getJavaFileObjects(SOURCE);
      JavacTask task = (JavacTask) compiler.getTask(null, files, null, List.of("-proc:none"), null, sources);
      CompilationUnitTree unit = task.parse().iterator().next();
      task.analyze();
      LanguageRules rules = new LanguageRules(Trees.instance(task), unit);
      rules.scan(unit, null);
      return rules;
    }
  }
}
