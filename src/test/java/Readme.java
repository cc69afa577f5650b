import java.io.IOException;
import java.nio.file.Files;
import java.nio.file.Path;
import java.util.ArrayList;
import java.util.List;

/** The blocks of code in README.md, each as it stands there. */
final class Readme {
    private static final String FENCE = "```";

    private final List<Block> blocks = new ArrayList<>();

    Readme() {
        try {
            collect(Files.readAllLines(Path.of("README.md")));
        } catch (IOException e) {
            throw new IllegalStateException("tests are run from the directory of README.md", e);
        }
    }

    private void collect(List<String> lines) {
        String kind = null;
        StringBuilder text = new StringBuilder();
        for (String line : lines) {
            if (!line.startsWith(FENCE)) {
                text.append(line).append('\n');
            } else if (kind == null) {
                kind = line.substring(FENCE.length());
                text.setLength(0);
            } else {
                blocks.add(new Block(kind, text.toString()));
                kind = null;
            }
        }
    }

    /** The texts of this kind in which the part stands, in their order. */
    List<String> blocksWith(String kind, String part) {
        List<String> found = new ArrayList<>();
        for (Block block : blocks) {
            if (block.kind.equals(kind) && block.text.contains(part)) {
                found.add(block.text);
            }
        }
        return found;
    }

    String blockWith(String kind, String part) {
        List<String> found = blocksWith(kind, part);
        if (found.size() != 1) {
            throw new IllegalStateException("README.md has " + found.size() + " blocks " + kind + " with " + part);
        }
        return found.get(0);
    }

    private record Block(String kind, String text) {
    }
}
