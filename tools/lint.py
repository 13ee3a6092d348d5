# Tells the deepest rows of calls, long methods and how many fields classes have; run it in the repo.
import subprocess,re,sys,glob,os
d='/tmp/shapelang-lint'
subprocess.run('rm -rf %s; mkdir -p %s; javac -g -d %s src/main/java/ShapeLang.java'%(d,d,d),shell=True,check=True)
classes=[os.path.basename(f) for f in glob.glob(d+'/*.class')]
out=subprocess.run(['javap','-p','-c']+[d+'/'+c for c in classes],capture_output=True,text=True).stdout
graph={};lib=set();cur=None;cls=None
for line in out.split('\n'):
    m=re.match(r'(?:.*\s)?(?:class|interface) ([\w$.]+)',line)
    if m and line.rstrip().endswith('{'):
        cls=m.group(1); continue
    m=re.match(r'  (?:[\w\[\]., $<>]+ )?([\w$]+)\((.*?)\)(?: throws .*)?;$',line)
    if m and not line.startswith('    '):
        name=m.group(1)
        if name==cls: name='<init>'
        cur=cls+'.'+name; graph.setdefault(cur,set()); continue
    m=re.search(r'invoke(\w+)\s+#\d+(?:,\s*\d+)?\s*// (?:Interface)?Method ([^:]+):(\S+)',line)
    if m and cur:
        t=m.group(2).replace('"<init>"','<init>')
        if '.' not in t: t=cls+'.'+t
        if t.startswith('ShapeLang'): graph[cur].add(t)
        else: lib.add(t)
print('lib:',sorted(lib))
# SCC
sys.setrecursionlimit(10000)
idx={};low={};st=[];on=set();comp={};n=[0];comps=[]
def sc(v):
    idx[v]=low[v]=n[0];n[0]+=1;st.append(v);on.add(v)
    for w in graph.get(v,()):
        if w not in idx: sc(w);low[v]=min(low[v],low[w])
        elif w in on: low[v]=min(low[v],idx[w])
    if low[v]==idx[v]:
        c=[]
        while True:
            w=st.pop();on.discard(w);comp[w]=len(comps);c.append(w)
            if w==v:break
        comps.append(c)
for v in list(graph): 
    if v not in idx: sc(v)
from functools import lru_cache
@lru_cache(None)
def depth(c):
    best=(1 ,(comps[c][0],))
    for v in comps[c]:
        for w in graph.get(v,()):
            if comp[w]!=c:
                d,p=depth(comp[w])
                if d+1>best[0]: best=(d+1,('|'.join(x.split('$')[-1] for x in comps[c]),)+p)
    return best
rows=[]
for v in graph:
    if v.startswith('ShapeLang.') : rows.append((depth(comp[v])[0],v,depth(comp[v])[1]))
rows.sort(reverse=True)
for r in rows[:int(sys.argv[1]) if len(sys.argv)>1 else 12]: print(r[0],r[1],' > '.join(x.split('.')[-1] if '|' not in x else x for x in r[2]))
# method lengths
src=open('src/main/java/ShapeLang.java').read().split('\n')
start=None
for i,l in enumerate(src):
    m=re.match(r'^(    |        )(?! )(?:(?:public|private|static|final) )*[\w\[\]<>]+ (\w+)\((.*)\).*\{$',l) 
    if m and ' class ' not in l: start=(i,m.group(1),m.group(2),m.group(3))
    if start and l==start[1]+'}':
        ln=i-start[0]+1
        np=len([x for x in start[3].split(',') if x.strip()])
        if ln>45 or np>7: print('method',start[2],ln,'params',np)
        start=None
print('classes',len(re.findall(r'\bclass \w+',open('src/main/java/ShapeLang.java').read())))
for cm in re.finditer(r'^(    )?(?:public |private |static |final )*class (\w+)',open('src/main/java/ShapeLang.java').read(),re.M):
    ind='    ' if cm.group(1) is None else '        '
    txt=open('src/main/java/ShapeLang.java').read()[cm.end():]
    end=re.search(r'^'+(cm.group(1) or '')+r'}',txt,re.M).start()
    f=[x for x in re.findall(r'^'+ind+r'private (?!static)(?:final )?[\w\[\]]+ (\w+)(?: =.*)?;$',txt[:end],re.M)]
    print(cm.group(2),len(f))
print('lines',len(src))
