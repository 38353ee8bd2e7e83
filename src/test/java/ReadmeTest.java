import java.io.IOException;
import java.nio.file.Files;
import java.nio.file.Path;

/** The example in README.md: its lines stand there, and answer what they tell. */
public final class ReadmeTest {
    private static final Due due = new Due();
    private static String readme;

    public static void main(String[] args) throws IOException {
        readme = Files.readString(Path.of("README.md"));
        GroupLog log = new GroupLog();
        stands("GroupLog log = new GroupLog();");
        due.is("feed", log.feed(7), true);
        stands("log.feed(7); ");
        int record = log.append();
        due.is("append", record, 1);
        stands("int record = log.append(); // the tape becomes record 1,");
        due.is("flush", log.flush(), 1);
        stands("log.flush(); // 1:");
        due.is("cut", log.cut(), true);
        stands("log.cut(); ");
        due.is("start", log.start(), 1);
        stands("log.start(); // 1:");
        due.is("at", log.at(record, 0), 7);
        stands("log.at(record, 0); // 7");
        due.is("checkpoint", log.checkpoint(record + 1), 1);
        stands("log.checkpoint(record + 1); // 1:");
        due.end();
    }

    private static void stands(String line) {
        due.is("README.md has: " + line, readme.replaceAll(" +", " ").contains("\n" + line), true);
    }
}
